/-- a call of the law on both: the same answer, and all holds as before -/
def cz_pair (G : am_G) (Y7 Y8 : am_Y) (d7 lo7 d8 lo8 : Nat) (as : List Value) : Prop := ∀ I A, cz_Inv I A → ∃ Q7, Cm G Y7 d7 lo7 (.ref 0 :: as) I A Q7 ∧ ∀ r I1 A1, Q7 r I1 A1 → ∃ x, r = some (.int x) ∧ ∃ Q8, Cm G Y8 d8 lo8 (.ref mM :: as) I1 A1 Q8 ∧ ∀ r2 I2 A2, Q8 r2 I2 A2 → r2 = some (.int x) ∧ cz_Inv I2 A2
theorem cz_L_0 {nv ns : Nat} {I A : Nat → Nat → Int32} : cz_L 0 nv ns I A := ⟨fun z => absurd z (by omega), fun z => absurd z (by omega), fun z => absurd z (by omega), fun z => absurd z (by omega)⟩
theorem mz_sw_mono {nv : Nat} {o a b c : Int32} (h : mz_sw nv o a b c) : mz_sw (nv + 1) o a b c := by
  obtain ⟨k, hk, ek, h3, h4, h5, h6, h7, h8⟩ := h
  exact ⟨k, hk, ek, fun z => by obtain ⟨x, hx, e⟩ := h3 z; exact ⟨x, by omega, e⟩, fun z => by obtain ⟨x, hx, e⟩ := h4 z; exact ⟨x, by omega, e⟩, fun z => by obtain ⟨x, hx, e⟩ := h5 z; exact ⟨x, by omega, e⟩, h6, h7, h8⟩
theorem cz_in_iff {n : Nat} {x : Int32} (hn : n < 2 ^ 31) : cz_in n x ↔ ∃ j, j < n ∧ x = nI j := by
  constructor
  · exact fun h => mz_nat hn h
  · rintro ⟨j, hj, rfl⟩
    exact ⟨nI_pos (by omega), fun z => by rw [nI_leI (by omega) (by omega)] at z; omega⟩
theorem cz_vOK_iff {nv : Nat} {c : Int32} (hnv : nv ≤ 24) : cz_vOK nv c ↔ mz_vOK nv c := by
  unfold cz_vOK mz_vOK
  rw [cz_in_iff (by omega)]
  constructor
  · rintro ⟨⟨j, hj, rfl⟩, h⟩
    exact ⟨nI_pos (by omega), fun z => by rw [nI_ltI (by omega) (by omega)] at z; omega, by omega⟩
  · rintro ⟨h1, h2, h3⟩
    obtain ⟨j, hj, rfl⟩ := mz_ngt (nv := 1) (by decide) h1 h2
    exact ⟨⟨j, by omega, rfl⟩, by omega⟩
theorem cz_rOK_iff {c m : Int32} : cz_rOK c m ↔ mz_rOK c m := by
  unfold cz_rOK mz_rOK
  rw [cz_in_iff (by omega)]
  constructor
  · rintro ⟨⟨j, hj, rfl⟩, h1, h2⟩
    exact ⟨nI_pos (by omega), fun z => by rw [nI_ltI (by omega) (by omega)] at z; omega, h1, h2⟩
  · rintro ⟨h1, h2, h3, h4⟩
    obtain ⟨j, hj, rfl⟩ := mz_ngt (nv := 1) (by decide) h1 h2
    exact ⟨⟨j, by omega, rfl⟩, h3, h4⟩
theorem pq_value {G : am_G} (c : Int32) : cz_pair G MX7_value MX8_value 2 41 0 0 [.int c] := by
  intro I A hInv
  obtain ⟨nv, ns, rd, hJ⟩ := id hInv
  obtain ⟨hK, hM, hR, hr4, hrd, hL⟩ := hJ
  obtain ⟨k1, k2, hnv, hns, hsw, hcl, hrg, hmem, h9, h10, h11, h20⟩ := id hK
  obtain ⟨m1, m2, a1, a2, a3, a4, a5, a6, a7, a8⟩ := id hM
  refine ⟨_, ce_value I A nv k1 hnv c, fun r I1 A1 h => ?_⟩
  by_cases q : cz_vOK nv c
  · obtain ⟨cc, hcc, rfl, rfl, rfl, rfl⟩ := h.1 q
    refine ⟨nI nv, rfl, _, md_value (upI (upI I 0 11 (nI 0)) 1 6 (nI (nv + 1))) (upA (upA A 2 (upd (A 2) nv (nI cc))) 3 (upd (A 3) cc ((A 3 cc) ||| (nI 1 <<< (nI nv &&& 31))))) nv m1 hnv (nI cc), fun r2 I2 A2 h2 => ?_⟩
    obtain ⟨rfl, rfl, rfl⟩ := h2.1 ((cz_vOK_iff hnv).mp q)
    have hv24 := q.2
    refine ⟨rfl, nv + 1, ns, 0, ?_, ?_, ?_, by omega, rfl, cz_L_0⟩
    · refine ⟨rfl, k2, by omega, hns, fun s hs => mz_sw_mono (hsw s hs), fun v hv => ?_, hrg, fun c2 hc2 i => ?_, h9, h10, h11, fun v hv => h20 v (by omega)⟩
      · show ∃ cc2, cc2 < 2 ∧ upd (A 2) nv (nI cc) v = nI cc2
        by_cases e : v = nv
        · subst e; exact ⟨cc, hcc, pk_us⟩
        · rw [pk_un e]; exact hcl v (by omega)
      · show bg_t (upd (A 3) cc ((A 3 cc) ||| (nI 1 <<< (nI nv &&& 31))) c2) i = true ↔ i < nv + 1 ∧ upd (A 2) nv (nI cc) i = nI c2
        by_cases e : c2 = cc
        · subst e
          rw [pk_us, bg_or, bg_bit (by omega), Bool.or_eq_true, decide_eq_true_iff, hmem c2 hc2 i]
          by_cases e2 : i = nv
          · subst e2; rw [pk_us]; exact ⟨fun _ => ⟨by omega, rfl⟩, fun _ => Or.inr rfl⟩
          · rw [pk_un e2]
            exact ⟨fun z => by rcases z with z | z; exact ⟨by omega, z.2⟩; exact absurd z e2, fun z => Or.inl ⟨by omega, z.2⟩⟩
        · rw [pk_un e, hmem c2 hc2 i]
          by_cases e2 : i = nv
          · subst e2
            rw [pk_us, nI_eq (by omega) (by omega)]
            exact ⟨fun z => by omega, fun z => absurd z.2.symm e⟩
          · rw [pk_un e2]
            exact ⟨fun z => ⟨by omega, z.2⟩, fun z => ⟨by omega, z.2⟩⟩
    · refine ⟨rfl, m2, ?_, a2, a3, a4, a5, a6, a7, fun v hv => a8 v (by omega)⟩
      show upd (A m_classes) nv (nI cc) = upd (A 2) nv (nI cc)
      rw [a1]
    · exact hR
  · obtain ⟨rfl, rfl, rfl⟩ := h.2 q
    refine ⟨-1, rfl, _, md_value I A nv m1 hnv c, fun r2 I2 A2 h2 => ?_⟩
    obtain ⟨rfl, rfl, rfl⟩ := h2.2 (fun z => q ((cz_vOK_iff hnv).mpr z))
    exact ⟨rfl, hInv⟩
theorem mz_may_sw {nv : Nat} {cl : Nat → Int32} {o a b c : Int32} (hnv : nv ≤ 24) (h : mz_may nv cl o a b c) : mz_sw nv o a b c := by
  have V1 : ∀ {x : Int32}, mz_isV (nI nv) x → ∃ j, j < nv ∧ x = nI j := fun h => mz_nat (by omega) h
  have C1 : ∀ {x : Int32} {n : Nat}, n < 2 ^ 31 → ¬ x < 0 → ¬ nI n < x → ∃ j, j ≤ n ∧ x = nI j := fun h0 h1 h2 => mz_ngt h0 h1 h2
  rcases h with ⟨e, h1⟩ | ⟨e, h1, h2⟩ | ⟨e, h1, h2, h3⟩ | ⟨e, h1, h2, h3⟩ | ⟨e, h1, h2, h3, h4⟩ | ⟨e, h1, h2, h3, h4⟩ | ⟨e, h1, h2⟩ | ⟨e, h1⟩ | e
  · exact ⟨0, by omega, e, fun _ => V1 h1, fun z => by omega, fun z => by omega, fun z => by omega, fun z => by omega, fun z => by omega⟩
  · exact ⟨1, by omega, e, fun _ => V1 h1, fun _ => V1 h2, fun z => by omega, fun z => by omega, fun z => by omega, fun z => by omega⟩
  · rcases e with e | e
    · exact ⟨2, by omega, e, fun _ => V1 h1, fun _ => V1 h2, fun _ => V1 h3, fun z => by omega, fun z => by omega, fun z => by omega⟩
    · exact ⟨3, by omega, e, fun _ => V1 h1, fun _ => V1 h2, fun _ => V1 h3, fun z => by omega, fun z => by omega, fun z => by omega⟩
  · exact ⟨4, by omega, e, fun _ => V1 h1.1, fun _ => V1 h2.1, fun _ => V1 h3.1, fun z => by omega, fun z => by omega, fun z => by omega⟩
  · have h5 : ∃ j, j < 64 ∧ c = nI j := mz_nat (nv := 64) (by decide) ⟨h3, h4⟩
    rcases e with e | e
    · exact ⟨5, by omega, e, fun _ => V1 h1, fun _ => V1 h2.1, fun z => by omega, fun _ => h5, fun z => by omega, fun z => by omega⟩
    · exact ⟨6, by omega, e, fun _ => V1 h1, fun _ => V1 h2.1, fun z => by omega, fun _ => h5, fun z => by omega, fun z => by omega⟩
  · exact ⟨7, by omega, e, fun _ => V1 h1, fun _ => V1 h2, fun z => by omega, fun z => by omega, fun _ => C1 (by decide) h3 h4, fun z => by omega⟩
  · exact ⟨8, by omega, e, fun z => by omega, fun z => by omega, fun z => by omega, fun z => by omega, fun z => by omega, fun _ => C1 (by decide) h1 h2⟩
  · exact ⟨9, by omega, e, fun _ => V1 h1, fun z => by omega, fun z => by omega, fun z => by omega, fun z => by omega, fun z => by omega⟩
  · exact ⟨10, by omega, e, fun z => by omega, fun z => by omega, fun z => by omega, fun z => by omega, fun z => by omega, fun z => by omega⟩
theorem cz_upd_lt {P : Nat → Int32 → Int32 → Int32 → Int32 → Prop} {n : Nat} {f g h k : Nat → Int32} {a b c d : Int32} (h1 : ∀ s, s < n → P s (f s) (g s) (h s) (k s)) (h2 : P n a b c d) : ∀ s, s < n + 1 → P s (upd f n a s) (upd g n b s) (upd h n c s) (upd k n d s) := by
  intro s hs
  by_cases e : s = n
  · subst e; rw [pk_us, pk_us, pk_us, pk_us]; exact h2
  · rw [pk_un e, pk_un e, pk_un e, pk_un e]; exact h1 s (by omega)
theorem pq_put {G : am_G} (hst : am_sta G) (o a b c : Int32) : cz_pair G MX7_put MX8_put 3 72 3 67 [.int o, .int a, .int b, .int c] := by
  intro I A hInv
  obtain ⟨nv, ns, rd, hJ⟩ := id hInv
  obtain ⟨hK, hM, hR, hr4, hrd, hL⟩ := hJ
  obtain ⟨k1, k2, hnv, hns, hsw, hcl, hrg, hmem, h9, h10, h11, h20⟩ := id hK
  obtain ⟨m1, m2, a1, a2, a3, a4, a5, a6, a7, a8⟩ := id hM
  refine ⟨_, ce_put I A hst nv k1 hnv ns k2 hns o a b c, fun r I1 A1 h => ?_⟩
  by_cases q : mz_pOK nv ns (A 2) o a b c
  · obtain ⟨k, hk, rfl, rfl, rfl, rfl⟩ := h.1 q
    refine ⟨nI ns, rfl, _, md_put (upI (upI I 0 11 (nI 0)) 4 4 (nI (ns + 1))) (cz_putA A ns k a b c) nv ns m1 hnv m2 hns (nI k) a b c, fun r2 I2 A2 h2 => ?_⟩
    have q2 : mz_pOK nv ns ((cz_putA A ns k a b c) m_classes) (nI k) a b c := by
      show mz_pOK nv ns (A m_classes) (nI k) a b c
      rw [a1]; exact q
    obtain ⟨rfl, rfl, rfl⟩ := h2.1 q2
    have hn60 := q.2
    have hswn := mz_may_sw hnv q.1
    refine ⟨rfl, nv, ns + 1, 0, ?_, ?_, hR, by omega, rfl, cz_L_0⟩
    · refine ⟨k1, rfl, hnv, by omega, ?_, hcl, hrg, hmem, ?_, ?_, ?_, h20⟩
      · exact cz_upd_lt (P := fun _ x y z w => mz_sw nv x y z w) hsw hswn
      · intro s hs
        show upd (A 9) ns (mz_anew (upd (A 5) ns (nI k)) (upd (A 6) ns a) ns) s = mz_anew (upd (A 5) ns (nI k)) (upd (A 6) ns a) s
        by_cases e : s = ns
        · subst e; rw [pk_us]
        · rw [pk_un e, h9 s (by omega)]; unfold mz_anew; rw [pk_un e, pk_un e]
      · intro s hs
        show upd (A 10) ns (mz_tak0 (upd (A 5) ns (nI k)) (upd (A 6) ns a) (upd (A 7) ns b) ns) s = mz_tak0 (upd (A 5) ns (nI k)) (upd (A 6) ns a) (upd (A 7) ns b) s
        by_cases e : s = ns
        · subst e; rw [pk_us]
        · rw [pk_un e, h10 s (by omega)]; unfold mz_tak0; rw [pk_un e, pk_un e, pk_un e]
      · intro s hs
        show upd (A 11) ns (mz_tak1 (upd (A 5) ns (nI k)) (upd (A 7) ns b) (upd (A 8) ns c) ns) s = mz_tak1 (upd (A 5) ns (nI k)) (upd (A 7) ns b) (upd (A 8) ns c) s
        by_cases e : s = ns
        · subst e; rw [pk_us]
        · rw [pk_un e, h11 s (by omega)]; unfold mz_tak1; rw [pk_un e, pk_un e, pk_un e]
    · refine ⟨m1, rfl, a1, ?_, ?_, ?_, ?_, a6, a7, a8⟩
      · show upd (A m_ops) ns (nI k) = upd (A 5) ns (nI k); rw [a2]
      · show upd (A m_first) ns a = upd (A 6) ns a; rw [a3]
      · show upd (A m_second) ns b = upd (A 7) ns b; rw [a4]
      · show upd (A m_third) ns c = upd (A 8) ns c; rw [a5]
  · obtain ⟨rfl, rfl, rfl⟩ := h.2 q
    refine ⟨-1, rfl, _, md_put I A nv ns m1 hnv m2 hns o a b c, fun r2 I2 A2 h2 => ?_⟩
    obtain ⟨rfl, rfl, rfl⟩ := h2.2 (by rw [a1]; exact q)
    exact ⟨rfl, hInv⟩
theorem pq_clear {G : am_G} : cz_pair G MX7_clear MX8_clear 0 0 0 0 [] := by
  intro I A hInv
  obtain ⟨nv, ns, rd, hJ⟩ := id hInv
  obtain ⟨hK, hM, hR, hr4, hrd, hL⟩ := hJ
  obtain ⟨k1, k2, hnv, hns, hsw, hcl, hrg, hmem, h9, h10, h11, h20⟩ := id hK
  obtain ⟨m1, m2, a1, a2, a3, a4, a5, a6, a7, a8⟩ := id hM
  refine ⟨_, ce_clear I A ns k2 hns, fun r I1 A1 h => ?_⟩
  obtain ⟨rfl, rfl, rfl⟩ := h
  refine ⟨nI ns, rfl, _, md_clear _ _, fun r2 I2 A2 h2 => ?_⟩
  obtain ⟨rfl, rfl, rfl⟩ := h2
  refine ⟨by show some (Value.int (I mM 2)) = _; rw [m2], nv, 0, 0, ?_, ?_, hR, by omega, rfl, cz_L_0⟩
  · exact ⟨k1, rfl, hnv, by omega, fun s hs => absurd hs (Nat.not_lt_zero _), hcl, hrg, hmem, fun s hs => absurd hs (Nat.not_lt_zero _), fun s hs => absurd hs (Nat.not_lt_zero _), fun s hs => absurd hs (Nat.not_lt_zero _), h20⟩
  · exact ⟨m1, rfl, a1, a2, a3, a4, a5, a6, a7, a8⟩
theorem pq_registers {G : am_G} (c m : Int32) : cz_pair G MX7_registers MX8_registers 1 20 0 0 [.int c, .int m] := by
  intro I A hInv
  obtain ⟨nv, ns, rd, hJ⟩ := id hInv
  obtain ⟨hK, hM, hR, hr4, hrd, hL⟩ := hJ
  obtain ⟨k1, k2, hnv, hns, hsw, hcl, hrg, hmem, h9, h10, h11, h20⟩ := id hK
  obtain ⟨m1, m2, a1, a2, a3, a4, a5, a6, a7, a8⟩ := id hM
  refine ⟨_, ce_registers I A c m, fun r I1 A1 h => ?_⟩
  by_cases q : cz_rOK c m
  · obtain ⟨cc, hcc, rfl, rfl, rfl, rfl⟩ := h.1 q
    refine ⟨nI 1, rfl, _, md_registers _ _ (nI cc) m, fun r2 I2 A2 h2 => ?_⟩
    obtain ⟨rfl, rfl, rfl⟩ := h2.1 (cz_rOK_iff.mp q)
    obtain ⟨R, hR8, rfl⟩ := mz_le (nv := 8) (by decide) q.2.1 q.2.2
    rw [nI_clamp (by omega)]
    refine ⟨rfl, nv, ns, 0, ?_, ?_, hR, by omega, rfl, cz_L_0⟩
    · refine ⟨k1, k2, hnv, hns, hsw, hcl, fun c2 hc2 => ?_, hmem, h9, h10, h11, h20⟩
      show ∃ R2, R2 ≤ 8 ∧ upd (A 16) cc (nI R) c2 = nI R2
      by_cases e : c2 = cc
      · subst e; exact ⟨R, hR8, pk_us⟩
      · rw [pk_un e]; exact hrg c2 hc2
    · refine ⟨m1, m2, a1, a2, a3, a4, a5, ?_, a7, a8⟩
      show upd (A m_registers) cc (nI R) = upd (A 16) cc (nI R); rw [a6]
  · obtain ⟨rfl, rfl, rfl⟩ := h.2 q
    refine ⟨nI 0, rfl, _, md_registers _ _ c m, fun r2 I2 A2 h2 => ?_⟩
    obtain ⟨rfl, rfl, rfl⟩ := h2.2 (fun z => q (cz_rOK_iff.mpr z))
    exact ⟨rfl, hInv⟩
theorem pq_memory {G : am_G} (k v : Int32) : cz_pair G MX7_memory MX8_memory 1 20 0 0 [.int k, .int v] := by
  intro I A hInv
  obtain ⟨nv, ns, rd, hJ⟩ := id hInv
  obtain ⟨hK, hM, hR, hr4, hrd, hL⟩ := hJ
  obtain ⟨m1, m2, a1, a2, a3, a4, a5, a6, a7, a8⟩ := id hM
  refine ⟨_, ce_memory I A k v, fun r I1 A1 h => ?_⟩
  by_cases q : cz_in 64 k
  · obtain ⟨j, hj, rfl, rfl, rfl, rfl⟩ := h.1 q
    refine ⟨nI 1, rfl, _, md_memory _ _ (nI j) v, fun r2 I2 A2 h2 => ?_⟩
    obtain ⟨rfl, rfl, rfl⟩ := h2
    rw [mz_put_in (by decide) hj]
    refine ⟨by rw [if_pos ⟨nI_pos (by omega), show nI j < nI 64 from (nI_ltI (by omega) (by omega)).mpr hj⟩]; rfl, nv, ns, rd, hK, ?_, hR, hr4, hrd, hL⟩
    refine ⟨m1, m2, a1, a2, a3, a4, a5, a6, ?_, a8⟩
    show upd (A m_memory) j v = upd (A 35) j v; rw [a7]
  · obtain ⟨rfl, rfl, rfl⟩ := h.2 q
    have hz : ¬ (¬ k < 0 ∧ k < nI 64) := fun z => q ((cz_in_iff (by omega)).mpr (mz_lt (by decide) z.1 z.2))
    refine ⟨nI 0, rfl, _, md_memory _ _ k v, fun r2 I2 A2 h2 => ?_⟩
    obtain ⟨rfl, rfl, rfl⟩ := h2
    have e : mz_put 64 (A m_memory) k v = A m_memory := if_neg hz
    rw [e, upA_i]
    exact ⟨by rw [if_neg (show ¬ (¬ k < 0 ∧ k < 64) from hz)]; rfl, hInv⟩
theorem pq_made {G : am_G} (w : Int32) : cz_pair G MX7_made MX8_made 0 0 0 0 [.int w] := by
  intro I A hInv
  obtain ⟨nv, ns, rd, hJ⟩ := id hInv
  obtain ⟨-, -, ⟨t, t1, t2, t3, t4, -, -⟩, -⟩ := hJ
  refine ⟨_, ce_made I A w, fun r I1 A1 h => ?_⟩
  obtain ⟨rfl, rfl, rfl⟩ := h
  refine ⟨_, rfl, _, md_made _ _ w, fun r2 I2 A2 h2 => ?_⟩
  obtain ⟨rfl, rfl, rfl⟩ := h2
  exact ⟨by rw [t4, t2, t3]; rfl, hInv⟩
theorem pq_cell {G : am_G} (k : Int32) : cz_pair G MX7_cell MX8_cell 1 20 0 0 [.int k] := by
  intro I A hInv
  obtain ⟨nv, ns, rd, hJ⟩ := id hInv
  obtain ⟨-, -, ⟨t, t1, t2, t3, t4, t5, t6⟩, -⟩ := hJ
  refine ⟨_, ce_cell I A k, fun r I1 A1 h => ?_⟩
  by_cases q : cz_in 64 k
  · obtain ⟨j, hj, rfl, rfl, rfl, rfl⟩ := h.1 q
    refine ⟨_, rfl, _, md_cell _ _ (nI j), fun r2 I2 A2 h2 => ?_⟩
    obtain ⟨rfl, rfl, rfl⟩ := h2
    exact ⟨by rw [mz_get_in (by decide) hj, t5 j hj], hInv⟩
  · obtain ⟨rfl, rfl, rfl⟩ := h.2 q
    refine ⟨_, rfl, _, md_cell _ _ k, fun r2 I2 A2 h2 => ?_⟩
    obtain ⟨rfl, rfl, rfl⟩ := h2
    have hz : ¬ (¬ k < 0 ∧ k < nI 64) := fun z => q ((cz_in_iff (by omega)).mpr (mz_lt (by decide) z.1 z.2))
    exact ⟨by rw [show mz_get 64 (A m_left) k = 0 from if_neg hz]; rfl, hInv⟩
theorem pq_said {G : am_G} (k : Int32) : cz_pair G MX7_said MX8_said 2 41 0 0 [.int k] := by
  intro I A hInv
  obtain ⟨nv, ns, rd, hJ⟩ := id hInv
  obtain ⟨-, -, ⟨t, t1, t2, t3, t4, t5, t6⟩, -⟩ := hJ
  refine ⟨_, ce_said I A t t2 (by omega) k, fun r I1 A1 h => ?_⟩
  by_cases q : ¬ k < 0 ∧ k < nI (min t 50)
  · obtain ⟨j, hj, rfl, rfl, rfl, rfl⟩ := h.1 q
    refine ⟨_, rfl, _, md_said _ _ (nI j), fun r2 I2 A2 h2 => ?_⟩
    obtain ⟨rfl, rfl, rfl⟩ := h2
    have e : mz_get 50 (A m_said) (nI j) = A m_said j := mz_get_in (by decide) (by omega)
    exact ⟨by rw [t3, if_neg (fun z => by rw [nI_leI (by omega) (by omega)] at z; omega), e, t6 j hj], hInv⟩
  · obtain ⟨rfl, rfl, rfl⟩ := h.2 q
    refine ⟨_, rfl, _, md_said _ _ k, fun r2 I2 A2 h2 => ?_⟩
    obtain ⟨rfl, rfl, rfl⟩ := h2
    refine ⟨?_, hInv⟩
    rw [t3]
    by_cases q2 : nI t ≤ k
    · rw [if_pos q2]; rfl
    · rw [if_neg q2]
      have hz : ¬ (¬ k < 0 ∧ k < nI 50) := fun z => by
        obtain ⟨j, hj, rfl⟩ := mz_lt (nv := 50) (by decide) z.1 z.2
        rw [nI_leI (by omega) (by omega)] at q2
        exact q ⟨z.1, (nI_ltI (by omega) (by omega)).mpr (by omega)⟩
      rw [show mz_get 50 (A m_said) k = 0 from if_neg hz]; rfl
theorem pq_check {G : am_G} (hst : am_sta G) : cz_pair G MX7_check MX8_check 6 144 0 0 [] := by
  intro I A hInv
  obtain ⟨nv, ns, rd, hJ⟩ := id hInv
  obtain ⟨hK, hM, hR, hr4, hrd, hL⟩ := id hJ
  refine ⟨_, ce_check I A hst nv ns hK rd hrd hr4 hL, fun r I1 A1 h => ?_⟩
  obtain ⟨rfl, I3, A3, hwk, f1, f2⟩ := h
  have hJ3 := cz_Wk_J hJ (by omega) hwk
  refine ⟨nI 1, rfl, _, md_check _ _, fun r2 I2 A2 h2 => ?_⟩
  obtain ⟨rfl, rfl, rfl⟩ := h2
  obtain ⟨hK3, ⟨m1, m2, a1, a2, a3, a4, a5, a6, a7, a8⟩, ⟨t, t1, t2, t3, t4, t5, t6⟩, h4, e, hL3⟩ := hJ3
  refine ⟨rfl, nv, ns, max rd 3, ?_, ?_, ?_, h4, by rw [f1 0 11 (by decide) (by decide)]; exact e, ?_⟩
  · unfold cz_K at hK3 ⊢
    rw [f2 2 (by omega), f2 3 (by omega), f2 5 (by omega), f2 6 (by omega), f2 7 (by omega), f2 8 (by omega), f2 9 (by omega), f2 10 (by omega), f2 11 (by omega), f2 16 (by omega), f2 20 (by omega), f1 1 6 (by decide) (by decide), f1 4 4 (by decide) (by decide)]
    exact hK3
  · unfold cz_M
    rw [f1 mM 0 (by decide) (by decide), f1 mM 2 (by decide) (by decide), f2 m_classes (by decide), f2 m_ops (by decide), f2 m_first (by decide), f2 m_second (by decide), f2 m_third (by decide), f2 m_registers (by decide), f2 m_memory (by decide), f2 m_homes (by decide), f2 2 (by omega), f2 5 (by omega), f2 6 (by omega), f2 7 (by omega), f2 8 (by omega), f2 16 (by omega), f2 35 (by omega)]
    exact ⟨m1, m2, a1, a2, a3, a4, a5, a6, a7, a8⟩
  · refine ⟨t, t1, by rw [f1 36 4 (by decide) (by decide)]; exact t2, by rw [f1 mM 19 (by decide) (by decide)]; exact t3, by rw [f1 36 5 (by decide) (by decide), f1 mM 18 (by decide) (by decide)]; exact t4, by rw [f2 39 (by omega), f2 m_left (by decide)]; exact t5, by rw [f2 40 (by omega), f2 m_said (by decide)]; exact t6⟩
  · unfold cz_L cz_F1 cz_F2 cz_F3 cz_F4 cz_sp cz_v cz_tv at hL3 ⊢
    rw [f2 2 (by omega), f2 5 (by omega), f2 6 (by omega), f2 7 (by omega), f2 8 (by omega), f2 13 (by omega), f2 14 (by omega), f2 16 (by omega), f2 17 (by omega), f2 18 (by omega), f2 20 (by omega), f2 26 (by omega), f2 27 (by omega), f2 28 (by omega), f2 29 (by omega), f2 31 (by omega), f2 32 (by omega), f2 33 (by omega), f2 34 (by omega), f1 25 4 (by decide) (by decide), f1 30 4 (by decide) (by decide)]
    exact hL3
