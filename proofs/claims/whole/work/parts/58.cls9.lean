theorem cz_R_r {cl hm : Nat → Int32} {w v : Nat} (hv : v < 2 ^ 31) (h : hm v < nI 100) : cz_R cl hm (nI v) w = mz_reg (cl v) (hm v) := by rw [cz_R_n hv, if_pos h]
theorem cz_R_s {cl hm : Nat → Int32} {w v : Nat} (hv : v < 2 ^ 31) (h : ¬ hm v < nI 100) : cz_R cl hm (nI v) w = mz_reg (cl v) (nI w) := by rw [cz_R_n hv, if_neg h]
theorem cz_C2_s {cl hm : Nat → Int32} {f : Int32} {C : cz_CN} : cz_C2 cl hm f f C = cz_br cl hm f 8 C := if_pos rfl
theorem cz_C2_d {cl hm : Nat → Int32} {f g : Int32} {C : cz_CN} (h : ¬ g = f) : cz_C2 cl hm f g C = cz_br cl hm g (cz_w2 cl hm f g) (cz_br cl hm f 8 C) := if_neg h
theorem cz_gA_s {cl hm : Nat → Int32} {f : Int32} : cz_gA cl hm f f = cz_R cl hm f 8 := if_pos rfl
theorem cz_gA_d {cl hm : Nat → Int32} {f g : Int32} (h : ¬ g = f) : cz_gA cl hm f g = cz_R cl hm g (cz_w2 cl hm f g) := if_neg h
/-- the reference's fetches are these -/
theorem cz_f2_e {nv s n : Nat} {op fa fb fc cl hm fe it c : Nat → Int32} (hnv : nv ≤ 24) (h0 : mz_tak0 op fa fb s = (-1) → mz_tak1 op fb fc s = (-1)) (hsw : mz_sw nv (op s) (fa s) (fb s) (fc s)) : ((mz_f2 op fa fb fc cl hm s (0, fe, it, c, n)).2.2.2.1, (mz_f2 op fa fb fc cl hm s (0, fe, it, c, n)).2.2.2.2) = cz_C2 cl hm (mz_tak0 op fa fb s) (mz_tak1 op fb fc s) (c, n) ∧ (∀ f, f < nv → mz_tak0 op fa fb s = nI f → mz_from cl hm (mz_f2 op fa fb fc cl hm s (0, fe, it, c, n)).2.1 (mz_f2 op fa fb fc cl hm s (0, fe, it, c, n)).2.2.1 (mz_f2 op fa fb fc cl hm s (0, fe, it, c, n)).1 f = cz_R cl hm (mz_tak0 op fa fb s) 8) ∧ ∀ g, g < nv → mz_tak1 op fb fc s = nI g → mz_from cl hm (mz_f2 op fa fb fc cl hm s (0, fe, it, c, n)).2.1 (mz_f2 op fa fb fc cl hm s (0, fe, it, c, n)).2.2.1 (mz_f2 op fa fb fc cl hm s (0, fe, it, c, n)).1 g = cz_gA cl hm (mz_tak0 op fa fb s) (mz_tak1 op fb fc s) := by
  unfold mz_f2
  have e31 : ∀ {x y : Nat}, x < nv → y < nv → nI x = nI y → x = y := fun h1 h2 h => (nI_eq (by omega) (by omega)).mp h
  rcases mz_sw_tak0 hsw with e0 | ⟨a, ha, e0⟩
  · have e1 := h0 e0
    rw [e0, e1, mz_f1_m, mz_f1_m, cz_C2_s, cz_br_m]
    exact ⟨rfl, fun f hf z => absurd z.symm (nI_nm1 (by omega)), fun g hg z => absurd z.symm (nI_nm1 (by omega))⟩
  · rcases mz_sw_tak1 hsw with e1 | ⟨b, hb, e1⟩
    · have hne : ¬ (-1 : Int32) = nI a := fun z => nI_nm1 (by omega) z.symm
      by_cases q : hm a < nI 100
      · rw [e0, e1, mz_f1_r (by omega) q, mz_f1_m, cz_C2_d hne, cz_br_m, cz_br_r (by omega) q, cz_R_r (by omega) q]
        refine ⟨rfl, fun f hf z => ?_, fun g hg z => absurd z.symm (nI_nm1 (by omega))⟩
        obtain rfl := e31 ha hf z
        rfl
      · rw [e0, e1, mz_f1_s (by omega) q, mz_ft0, mz_f1_m, cz_C2_d hne, cz_br_m, cz_br_s (by omega) q, cz_R_s (by omega) q]
        refine ⟨rfl, fun f hf z => ?_, fun g hg z => absurd z.symm (nI_nm1 (by omega))⟩
        obtain rfl := e31 ha hf z
        show (if upd fe 0 (nI a) 0 = nI a then upd it 0 (mz_reg (cl a) (nI 8)) 0 else _) = _
        rw [if_pos pk_us, pk_us]
    · by_cases qe : a = b
      · subst qe
        by_cases q : hm a < nI 100
        · rw [e0, e1, mz_f1_r (by omega) q, mz_f1_r (by omega) q, cz_C2_s, cz_gA_s, cz_br_r (by omega) q, cz_R_r (by omega) q]
          refine ⟨rfl, fun f hf z => ?_, fun g hg z => ?_⟩
          · obtain rfl := e31 ha hf z; rfl
          · obtain rfl := e31 ha hg z; rfl
        · rw [e0, e1, show mz_f1 cl hm (nI a) (0, fe, it, c, n) = _ from (mz_f1_s (by omega) q).trans mz_ft0, mz_f1_s (by omega) q, mz_ft1s pk_us, cz_C2_s, cz_gA_s, cz_br_s (by omega) q, cz_R_s (by omega) q]
          have key : (if upd fe 0 (nI a) 0 = nI a then upd it 0 (mz_reg (cl a) (nI 8)) 0 else mz_reg (cl a) (hm a)) = mz_reg (cl a) (nI 8) := by rw [if_pos pk_us, pk_us]
          refine ⟨rfl, fun f hf z => ?_, fun g hg z => ?_⟩
          · obtain rfl := e31 ha hf z; exact key
          · obtain rfl := e31 ha hg z; exact key
      · have hne : ¬ nI b = nI a := fun z => qe (e31 hb ha z).symm
        have hne2 : ¬ nI a = nI b := fun z => hne z.symm
        rw [cz_C2_d (by rw [e0, e1]; exact hne), cz_gA_d (by rw [e0, e1]; exact hne)]
        by_cases q : hm a < nI 100
        · have hw : cz_w2 cl hm (nI a) (nI b) = 8 := cz_w2_8 (by omega) (by omega) (fun z => z.1 q)
          by_cases q2 : hm b < nI 100
          · rw [e0, e1, hw, mz_f1_r (by omega) q, mz_f1_r (by omega) q2, cz_br_r (by omega) q2, cz_br_r (by omega) q, cz_R_r (by omega) q, cz_R_r (by omega) q2]
            refine ⟨rfl, fun f hf z => ?_, fun g hg z => ?_⟩
            · obtain rfl := e31 ha hf z; rfl
            · obtain rfl := e31 hb hg z; rfl
          · rw [e0, e1, hw, mz_f1_r (by omega) q, mz_f1_s (by omega) q2, mz_ft0, cz_br_s (by omega) q2, cz_br_r (by omega) q, cz_R_r (by omega) q, cz_R_s (by omega) q2]
            refine ⟨rfl, fun f hf z => ?_, fun g hg z => ?_⟩
            · obtain rfl := e31 ha hf z
              show (if upd fe 0 (nI b) 0 = nI a then _ else mz_reg (cl a) (hm a)) = _
              rw [if_neg (by rw [pk_us]; exact hne)]
            · obtain rfl := e31 hb hg z
              show (if upd fe 0 (nI b) 0 = nI b then upd it 0 (mz_reg (cl b) (nI 8)) 0 else _) = _
              rw [if_pos pk_us, pk_us]
        · by_cases q2 : hm b < nI 100
          · have hx : ∀ w, cz_br cl hm (nI b) w (cz_br cl hm (nI a) 8 (c, n)) = cz_br cl hm (nI a) 8 (c, n) := fun w => cz_br_r (by omega) q2
            have hy : ∀ w, cz_R cl hm (nI b) w = mz_reg (cl b) (hm b) := fun w => cz_R_r (by omega) q2
            rw [e0, e1, hx, hy, mz_f1_s (by omega) q, mz_f1_r (by omega) q2, mz_ft0, cz_br_s (by omega) q, cz_R_s (by omega) q]
            refine ⟨rfl, fun f hf z => ?_, fun g hg z => ?_⟩
            · obtain rfl := e31 ha hf z
              show (if upd fe 0 (nI a) 0 = nI a then upd it 0 (mz_reg (cl a) (nI 8)) 0 else _) = _
              rw [if_pos pk_us, pk_us]
            · obtain rfl := e31 hb hg z
              show (if upd fe 0 (nI a) 0 = nI b then _ else mz_reg (cl b) (hm b)) = _
              rw [if_neg (by rw [pk_us]; exact hne2)]
          · by_cases qc : cl a = cl b
            · have hw : cz_w2 cl hm (nI a) (nI b) = 9 := cz_w2_9 (by omega) (by omega) ⟨q, qc⟩
              rw [e0, e1, hw, mz_f1_s (by omega) q, mz_ft0, mz_f1_s (by omega) q2, mz_ft1d (by omega) (by omega) pk_us qe, if_pos qc, cz_br_s (by omega) q2, cz_br_s (by omega) q, cz_R_s (by omega) q, cz_R_s (by omega) q2]
              refine ⟨rfl, fun f hf z => ?_, fun g hg z => ?_⟩
              · obtain rfl := e31 ha hf z
                show (if upd (upd fe 0 (nI a)) 1 (nI b) 1 = nI a then _ else if upd (upd fe 0 (nI a)) 1 (nI b) 0 = nI a then upd (upd it 0 (mz_reg (cl a) (nI 8))) 1 (mz_reg (cl b) (nI 9)) 0 else _) = _
                rw [if_neg (by rw [pk_us]; exact hne), if_pos (by rw [pk_un (by decide), pk_us]), pk_un (by decide), pk_us]
              · obtain rfl := e31 hb hg z
                show (if upd (upd fe 0 (nI a)) 1 (nI b) 1 = nI b then upd (upd it 0 (mz_reg (cl a) (nI 8))) 1 (mz_reg (cl b) (nI 9)) 1 else _) = _
                rw [if_pos pk_us, pk_us]
            · have hw : cz_w2 cl hm (nI a) (nI b) = 8 := cz_w2_8 (by omega) (by omega) (fun z => qc z.2)
              rw [e0, e1, hw, mz_f1_s (by omega) q, mz_ft0, mz_f1_s (by omega) q2, mz_ft1d (by omega) (by omega) pk_us qe, if_neg qc, cz_br_s (by omega) q2, cz_br_s (by omega) q, cz_R_s (by omega) q, cz_R_s (by omega) q2]
              refine ⟨rfl, fun f hf z => ?_, fun g hg z => ?_⟩
              · obtain rfl := e31 ha hf z
                show (if upd (upd fe 0 (nI a)) 1 (nI b) 1 = nI a then _ else if upd (upd fe 0 (nI a)) 1 (nI b) 0 = nI a then upd (upd it 0 (mz_reg (cl a) (nI 8))) 1 (mz_reg (cl b) (nI 8)) 0 else _) = _
                rw [if_neg (by rw [pk_us]; exact hne), if_pos (by rw [pk_un (by decide), pk_us]), pk_un (by decide), pk_us]
              · obtain rfl := e31 hb hg z
                show (if upd (upd fe 0 (nI a)) 1 (nI b) 1 = nI b then upd (upd it 0 (mz_reg (cl a) (nI 8))) 1 (mz_reg (cl b) (nI 8)) 1 else _) = _
                rw [if_pos pk_us, pk_us]
set_option maxHeartbeats 2000000 in
theorem cz_ts_mk {nv s n k : Nat} {op fa fb fc cl hm fe it c : Nat → Int32} (hnv : nv ≤ 24) (hsw : mz_sw nv (op s) (fa s) (fb s) (fc s)) (ek : op s = nI k) (hk10 : k ≤ 10) : cz_ts cl hm k (fa s) (fb s) (fc s) (mz_tak0 op fa fb s) (mz_tak1 op fb fc s) (mz_anew op fa s) (c, n) = mz_mkN op fa fb fc cl hm s (mz_f2 op fa fb fc cl hm s (0, fe, it, c, n)) := by
  obtain ⟨k', hk', ek', h3, h4, h5, -⟩ := id hsw
  obtain rfl : k' = k := (nI_eq (by omega) (by omega)).mp (ek'.symm.trans ek)
  clear ek'
  rcases (show k' = 0 ∨ k' = 1 ∨ k' = 2 ∨ k' = 3 ∨ k' = 4 ∨ k' = 5 ∨ k' = 6 ∨ k' = 7 ∨ k' = 8 ∨ k' = 9 ∨ k' = 10 by omega) with rfl | rfl | rfl | rfl | rfl | rfl | rfl | rfl | rfl | rfl | rfl
  · obtain ⟨a, ha, ea⟩ := h3 (by omega)
    have ean : mz_anew op fa s = nI a := by unfold mz_anew; rw [ek, ← ea]; rfl
    have et0 : mz_tak0 op fa fb s = (-1) := by unfold mz_tak0; rw [ek]; rfl
    have et1 : mz_tak1 op fb fc s = (-1) := by unfold mz_tak1; rw [ek]; rfl
    obtain ⟨g1, g2, g3⟩ := cz_f2_e (n := n) (op := op) (fa := fa) (fb := fb) (fc := fc) (cl := cl) (hm := hm) (fe := fe) (it := it) (c := c) hnv (fun z => et1) hsw
    rw [mz_mkN_0 ek (show a < 2 ^ 31 by omega) ea]
    rw [show mz_to cl hm a = cz_R cl hm (nI a) 8 from by rw [cz_R_n (by omega)]; rfl, ← ean]
    unfold cz_ts
    rw [← g1]
    rfl
  · obtain ⟨a, ha, ea⟩ := h3 (by omega)
    obtain ⟨b, hb, eb⟩ := h4 (by omega)
    have ean : mz_anew op fa s = nI a := by unfold mz_anew; rw [ek, ← ea]; rfl
    have et0 : mz_tak0 op fa fb s = nI b := by unfold mz_tak0; rw [ek, ← eb]; rfl
    have et1 : mz_tak1 op fb fc s = (-1) := by unfold mz_tak1; rw [ek]; rfl
    obtain ⟨g1, g2, g3⟩ := cz_f2_e (n := n) (op := op) (fa := fa) (fb := fb) (fc := fc) (cl := cl) (hm := hm) (fe := fe) (it := it) (c := c) hnv (fun z => et1) hsw
    have r0 := g2 b (by omega) et0
    rw [mz_mkN_1 ek (show a < 2 ^ 31 by omega) ea (show b < 2 ^ 31 by omega) eb]
    rw [r0]
    rw [show mz_to cl hm a = cz_R cl hm (nI a) 8 from by rw [cz_R_n (by omega)]; rfl, ← ean]
    unfold cz_ts
    rw [← g1]
    rfl
  · obtain ⟨a, ha, ea⟩ := h3 (by omega)
    obtain ⟨b, hb, eb⟩ := h4 (by omega)
    obtain ⟨c2, hc2, ec2⟩ := h5 (by omega)
    have ean : mz_anew op fa s = nI a := by unfold mz_anew; rw [ek, ← ea]; rfl
    have et0 : mz_tak0 op fa fb s = nI b := by unfold mz_tak0; rw [ek, ← eb]; rfl
    have et1 : mz_tak1 op fb fc s = nI c2 := by unfold mz_tak1; rw [ek, ← ec2]; rfl
    obtain ⟨g1, g2, g3⟩ := cz_f2_e (n := n) (op := op) (fa := fa) (fb := fb) (fc := fc) (cl := cl) (hm := hm) (fe := fe) (it := it) (c := c) hnv (fun z => absurd (et0.symm.trans z) (nI_nm1 (by omega))) hsw
    have r0 := g2 b (by omega) et0
    have r1 := g3 c2 (by omega) et1
    rw [mz_mkN_2 ek (show a < 2 ^ 31 by omega) ea (show b < 2 ^ 31 by omega) eb (show c2 < 2 ^ 31 by omega) ec2]
    rw [r0]
    rw [r1]
    rw [show mz_to cl hm a = cz_R cl hm (nI a) 8 from by rw [cz_R_n (by omega)]; rfl, ← ean]
    unfold cz_ts
    rw [← g1]
    rfl
  · obtain ⟨a, ha, ea⟩ := h3 (by omega)
    obtain ⟨b, hb, eb⟩ := h4 (by omega)
    obtain ⟨c2, hc2, ec2⟩ := h5 (by omega)
    have ean : mz_anew op fa s = nI a := by unfold mz_anew; rw [ek, ← ea]; rfl
    have et0 : mz_tak0 op fa fb s = nI b := by unfold mz_tak0; rw [ek, ← eb]; rfl
    have et1 : mz_tak1 op fb fc s = nI c2 := by unfold mz_tak1; rw [ek, ← ec2]; rfl
    obtain ⟨g1, g2, g3⟩ := cz_f2_e (n := n) (op := op) (fa := fa) (fb := fb) (fc := fc) (cl := cl) (hm := hm) (fe := fe) (it := it) (c := c) hnv (fun z => absurd (et0.symm.trans z) (nI_nm1 (by omega))) hsw
    have r0 := g2 b (by omega) et0
    have r1 := g3 c2 (by omega) et1
    rw [mz_mkN_3 ek (show a < 2 ^ 31 by omega) ea (show b < 2 ^ 31 by omega) eb (show c2 < 2 ^ 31 by omega) ec2]
    rw [r0]
    rw [r1]
    rw [show mz_to cl hm a = cz_R cl hm (nI a) 8 from by rw [cz_R_n (by omega)]; rfl, ← ean]
    unfold cz_ts
    rw [← g1]
    rfl
  · obtain ⟨a, ha, ea⟩ := h3 (by omega)
    obtain ⟨b, hb, eb⟩ := h4 (by omega)
    obtain ⟨c2, hc2, ec2⟩ := h5 (by omega)
    have ean : mz_anew op fa s = nI a := by unfold mz_anew; rw [ek, ← ea]; rfl
    have et0 : mz_tak0 op fa fb s = nI b := by unfold mz_tak0; rw [ek, ← eb]; rfl
    have et1 : mz_tak1 op fb fc s = nI c2 := by unfold mz_tak1; rw [ek, ← ec2]; rfl
    obtain ⟨g1, g2, g3⟩ := cz_f2_e (n := n) (op := op) (fa := fa) (fb := fb) (fc := fc) (cl := cl) (hm := hm) (fe := fe) (it := it) (c := c) hnv (fun z => absurd (et0.symm.trans z) (nI_nm1 (by omega))) hsw
    have r0 := g2 b (by omega) et0
    have r1 := g3 c2 (by omega) et1
    rw [mz_mkN_4 ek (show a < 2 ^ 31 by omega) ea (show b < 2 ^ 31 by omega) eb (show c2 < 2 ^ 31 by omega) ec2]
    rw [r0]
    rw [r1]
    rw [show mz_to cl hm a = cz_R cl hm (nI a) 8 from by rw [cz_R_n (by omega)]; rfl, ← ean]
    unfold cz_ts
    rw [← g1]
    rfl
  · obtain ⟨a, ha, ea⟩ := h3 (by omega)
    obtain ⟨b, hb, eb⟩ := h4 (by omega)
    have ean : mz_anew op fa s = nI a := by unfold mz_anew; rw [ek, ← ea]; rfl
    have et0 : mz_tak0 op fa fb s = nI b := by unfold mz_tak0; rw [ek, ← eb]; rfl
    have et1 : mz_tak1 op fb fc s = (-1) := by unfold mz_tak1; rw [ek]; rfl
    obtain ⟨g1, g2, g3⟩ := cz_f2_e (n := n) (op := op) (fa := fa) (fb := fb) (fc := fc) (cl := cl) (hm := hm) (fe := fe) (it := it) (c := c) hnv (fun z => et1) hsw
    have r0 := g2 b (by omega) et0
    rw [mz_mkN_5 ek (show a < 2 ^ 31 by omega) ea (show b < 2 ^ 31 by omega) eb]
    rw [r0]
    rw [show mz_to cl hm a = cz_R cl hm (nI a) 8 from by rw [cz_R_n (by omega)]; rfl, ← ean]
    unfold cz_ts
    rw [← g1]
    rfl
  · obtain ⟨a, ha, ea⟩ := h3 (by omega)
    obtain ⟨b, hb, eb⟩ := h4 (by omega)
    have ean : mz_anew op fa s = (-1) := by unfold mz_anew; rw [ek]; rfl
    have et0 : mz_tak0 op fa fb s = nI a := by unfold mz_tak0; rw [ek, ← ea]; rfl
    have et1 : mz_tak1 op fb fc s = nI b := by unfold mz_tak1; rw [ek, ← eb]; rfl
    obtain ⟨g1, g2, g3⟩ := cz_f2_e (n := n) (op := op) (fa := fa) (fb := fb) (fc := fc) (cl := cl) (hm := hm) (fe := fe) (it := it) (c := c) hnv (fun z => absurd (et0.symm.trans z) (nI_nm1 (by omega))) hsw
    have r0 := g2 a (by omega) et0
    have r1 := g3 b (by omega) et1
    rw [mz_mkN_6 ek (show a < 2 ^ 31 by omega) ea (show b < 2 ^ 31 by omega) eb]
    rw [r0]
    rw [r1]
    unfold cz_ts
    rw [← g1]
    rfl
  · obtain ⟨a, ha, ea⟩ := h3 (by omega)
    obtain ⟨b, hb, eb⟩ := h4 (by omega)
    have ean : mz_anew op fa s = (-1) := by unfold mz_anew; rw [ek]; rfl
    have et0 : mz_tak0 op fa fb s = nI a := by unfold mz_tak0; rw [ek, ← ea]; rfl
    have et1 : mz_tak1 op fb fc s = nI b := by unfold mz_tak1; rw [ek, ← eb]; rfl
    obtain ⟨g1, g2, g3⟩ := cz_f2_e (n := n) (op := op) (fa := fa) (fb := fb) (fc := fc) (cl := cl) (hm := hm) (fe := fe) (it := it) (c := c) hnv (fun z => absurd (et0.symm.trans z) (nI_nm1 (by omega))) hsw
    have r0 := g2 a (by omega) et0
    have r1 := g3 b (by omega) et1
    rw [mz_mkN_7 ek (show a < 2 ^ 31 by omega) ea (show b < 2 ^ 31 by omega) eb]
    rw [r0]
    rw [r1]
    unfold cz_ts
    rw [← g1]
    rfl
  · have ean : mz_anew op fa s = (-1) := by unfold mz_anew; rw [ek]; rfl
    have et0 : mz_tak0 op fa fb s = (-1) := by unfold mz_tak0; rw [ek]; rfl
    have et1 : mz_tak1 op fb fc s = (-1) := by unfold mz_tak1; rw [ek]; rfl
    obtain ⟨g1, g2, g3⟩ := cz_f2_e (n := n) (op := op) (fa := fa) (fb := fb) (fc := fc) (cl := cl) (hm := hm) (fe := fe) (it := it) (c := c) hnv (fun z => et1) hsw
    rw [mz_mkN_8 ek]
    unfold cz_ts
    rw [← g1]
    rfl
  · obtain ⟨a, ha, ea⟩ := h3 (by omega)
    have ean : mz_anew op fa s = (-1) := by unfold mz_anew; rw [ek]; rfl
    have et0 : mz_tak0 op fa fb s = nI a := by unfold mz_tak0; rw [ek, ← ea]; rfl
    have et1 : mz_tak1 op fb fc s = (-1) := by unfold mz_tak1; rw [ek]; rfl
    obtain ⟨g1, g2, g3⟩ := cz_f2_e (n := n) (op := op) (fa := fa) (fb := fb) (fc := fc) (cl := cl) (hm := hm) (fe := fe) (it := it) (c := c) hnv (fun z => et1) hsw
    have r0 := g2 a (by omega) et0
    rw [mz_mkN_9 ek (show a < 2 ^ 31 by omega) ea]
    rw [r0]
    unfold cz_ts
    rw [← g1]
    rfl
  · have ean : mz_anew op fa s = (-1) := by unfold mz_anew; rw [ek]; rfl
    have et0 : mz_tak0 op fa fb s = (-1) := by unfold mz_tak0; rw [ek]; rfl
    have et1 : mz_tak1 op fb fc s = (-1) := by unfold mz_tak1; rw [ek]; rfl
    obtain ⟨g1, g2, g3⟩ := cz_f2_e (n := n) (op := op) (fa := fa) (fb := fb) (fc := fc) (cl := cl) (hm := hm) (fe := fe) (it := it) (c := c) hnv (fun z => et1) hsw
    rw [mz_mkN_10 ek]
    unfold cz_ts
    rw [← g1]
    rfl
set_option maxHeartbeats 2000000 in
theorem cd_ts {G : am_G} (I A : Nat → Nat → Int32) (nv : Nat) (hnv : nv ≤ 24) (n : Nat) (hn : I 25 4 = nI n) (hN : n + 4 ≤ 240) (s : Nat) (hs : s < 60) (hsw : mz_sw nv (A 5 s) (A 6 s) (A 7 s) (A 8 s)) (h9 : A 9 s = mz_anew (A 5) (A 6) s) (h10 : A 10 s = mz_tak0 (A 5) (A 6) (A 7) s) (h11 : A 11 s = mz_tak1 (A 5) (A 7) (A 8) s) (fe it : Nat → Int32) : Cm G MX0_translateStep 3 70 [.ref 1, .ref 15, .ref 25, .int (nI s)] I A (fun r I' A' => r = none ∧ upI I 25 4 (nI (mz_mkN (A 5) (A 6) (A 7) (A 8) (A 2) (A 20) s (mz_f2 (A 5) (A 6) (A 7) (A 8) (A 2) (A 20) s (0, fe, it, cz_v A, n))).2) = I' ∧ cz_CC A (mz_mkN (A 5) (A 6) (A 7) (A 8) (A 2) (A 20) s (mz_f2 (A 5) (A 6) (A 7) (A 8) (A 2) (A 20) s (0, fe, it, cz_v A, n))).1 = A') := by
  obtain ⟨k, hk10, ek, h3, h4, h5, -⟩ := id hsw
  rw [← cz_ts_mk hnv hsw ek hk10]
  rcases (show k = 0 ∨ k = 1 ∨ k = 2 ∨ k = 3 ∨ k = 4 ∨ k = 5 ∨ k = 6 ∨ k = 7 ∨ k = 8 ∨ k = 9 ∨ k = 10 by omega) with rfl | rfl | rfl | rfl | rfl | rfl | rfl | rfl | rfl | rfl | rfl
  · obtain ⟨a, ha, ea⟩ := h3 (by omega)
    have ean : mz_anew (A 5) (A 6) s = nI a := by unfold mz_anew; rw [ek, ← ea]; rfl
    have et0 : mz_tak0 (A 5) (A 6) (A 7) s = (-1) := by unfold mz_tak0; rw [ek]; rfl
    have et1 : mz_tak1 (A 5) (A 7) (A 8) s = (-1) := by unfold mz_tak1; rw [ek]; rfl
    rw [ean, et0, et1]
    rw [ean] at h9
    rw [et0] at h10
    rw [et1] at h11
    exact cd_tsM1 I A n hn hN s hs 0 ⟨by omega, by omega⟩ ek a (by omega) h10 h11 h9
  · obtain ⟨a, ha, ea⟩ := h3 (by omega)
    obtain ⟨b, hb, eb⟩ := h4 (by omega)
    have ean : mz_anew (A 5) (A 6) s = nI a := by unfold mz_anew; rw [ek, ← ea]; rfl
    have et0 : mz_tak0 (A 5) (A 6) (A 7) s = nI b := by unfold mz_tak0; rw [ek, ← eb]; rfl
    have et1 : mz_tak1 (A 5) (A 7) (A 8) s = (-1) := by unfold mz_tak1; rw [ek]; rfl
    rw [ean, et0, et1]
    rw [ean] at h9
    rw [et0] at h10
    rw [et1] at h11
    exact cd_tsM2 I A n hn hN s hs 1 ⟨by omega, by omega⟩ ek b (by omega) a (by omega) h10 h11 h9
  · obtain ⟨a, ha, ea⟩ := h3 (by omega)
    obtain ⟨b, hb, eb⟩ := h4 (by omega)
    obtain ⟨c, hc, ec⟩ := h5 (by omega)
    have ean : mz_anew (A 5) (A 6) s = nI a := by unfold mz_anew; rw [ek, ← ea]; rfl
    have et0 : mz_tak0 (A 5) (A 6) (A 7) s = nI b := by unfold mz_tak0; rw [ek, ← eb]; rfl
    have et1 : mz_tak1 (A 5) (A 7) (A 8) s = nI c := by unfold mz_tak1; rw [ek, ← ec]; rfl
    rw [ean, et0, et1]
    rw [ean] at h9
    rw [et0] at h10
    rw [et1] at h11
    exact cd_tsM3 I A n hn hN s hs 2 ⟨by omega, by omega⟩ ek b (by omega) c (by omega) a (by omega) h10 h11 h9
  · obtain ⟨a, ha, ea⟩ := h3 (by omega)
    obtain ⟨b, hb, eb⟩ := h4 (by omega)
    obtain ⟨c, hc, ec⟩ := h5 (by omega)
    have ean : mz_anew (A 5) (A 6) s = nI a := by unfold mz_anew; rw [ek, ← ea]; rfl
    have et0 : mz_tak0 (A 5) (A 6) (A 7) s = nI b := by unfold mz_tak0; rw [ek, ← eb]; rfl
    have et1 : mz_tak1 (A 5) (A 7) (A 8) s = nI c := by unfold mz_tak1; rw [ek, ← ec]; rfl
    rw [ean, et0, et1]
    rw [ean] at h9
    rw [et0] at h10
    rw [et1] at h11
    exact cd_tsM3 I A n hn hN s hs 3 ⟨by omega, by omega⟩ ek b (by omega) c (by omega) a (by omega) h10 h11 h9
  · obtain ⟨a, ha, ea⟩ := h3 (by omega)
    obtain ⟨b, hb, eb⟩ := h4 (by omega)
    obtain ⟨c, hc, ec⟩ := h5 (by omega)
    have ean : mz_anew (A 5) (A 6) s = nI a := by unfold mz_anew; rw [ek, ← ea]; rfl
    have et0 : mz_tak0 (A 5) (A 6) (A 7) s = nI b := by unfold mz_tak0; rw [ek, ← eb]; rfl
    have et1 : mz_tak1 (A 5) (A 7) (A 8) s = nI c := by unfold mz_tak1; rw [ek, ← ec]; rfl
    rw [ean, et0, et1]
    rw [ean] at h9
    rw [et0] at h10
    rw [et1] at h11
    exact cd_tsM3 I A n hn hN s hs 4 ⟨by omega, by omega⟩ ek b (by omega) c (by omega) a (by omega) h10 h11 h9
  · obtain ⟨a, ha, ea⟩ := h3 (by omega)
    obtain ⟨b, hb, eb⟩ := h4 (by omega)
    have ean : mz_anew (A 5) (A 6) s = nI a := by unfold mz_anew; rw [ek, ← ea]; rfl
    have et0 : mz_tak0 (A 5) (A 6) (A 7) s = nI b := by unfold mz_tak0; rw [ek, ← eb]; rfl
    have et1 : mz_tak1 (A 5) (A 7) (A 8) s = (-1) := by unfold mz_tak1; rw [ek]; rfl
    rw [ean, et0, et1]
    rw [ean] at h9
    rw [et0] at h10
    rw [et1] at h11
    exact cd_tsM2 I A n hn hN s hs 5 ⟨by omega, by omega⟩ ek b (by omega) a (by omega) h10 h11 h9
  · obtain ⟨a, ha, ea⟩ := h3 (by omega)
    obtain ⟨b, hb, eb⟩ := h4 (by omega)
    have ean : mz_anew (A 5) (A 6) s = (-1) := by unfold mz_anew; rw [ek]; rfl
    have et0 : mz_tak0 (A 5) (A 6) (A 7) s = nI a := by unfold mz_tak0; rw [ek, ← ea]; rfl
    have et1 : mz_tak1 (A 5) (A 7) (A 8) s = nI b := by unfold mz_tak1; rw [ek, ← eb]; rfl
    rw [ean, et0, et1]
    rw [ean] at h9
    rw [et0] at h10
    rw [et1] at h11
    exact cd_tsU3 I A n hn hN s hs 6 ⟨by omega, by omega⟩ ek a (by omega) b (by omega) h10 h11 h9
  · obtain ⟨a, ha, ea⟩ := h3 (by omega)
    obtain ⟨b, hb, eb⟩ := h4 (by omega)
    have ean : mz_anew (A 5) (A 6) s = (-1) := by unfold mz_anew; rw [ek]; rfl
    have et0 : mz_tak0 (A 5) (A 6) (A 7) s = nI a := by unfold mz_tak0; rw [ek, ← ea]; rfl
    have et1 : mz_tak1 (A 5) (A 7) (A 8) s = nI b := by unfold mz_tak1; rw [ek, ← eb]; rfl
    rw [ean, et0, et1]
    rw [ean] at h9
    rw [et0] at h10
    rw [et1] at h11
    exact cd_tsU3 I A n hn hN s hs 7 ⟨by omega, by omega⟩ ek a (by omega) b (by omega) h10 h11 h9
  · have ean : mz_anew (A 5) (A 6) s = (-1) := by unfold mz_anew; rw [ek]; rfl
    have et0 : mz_tak0 (A 5) (A 6) (A 7) s = (-1) := by unfold mz_tak0; rw [ek]; rfl
    have et1 : mz_tak1 (A 5) (A 7) (A 8) s = (-1) := by unfold mz_tak1; rw [ek]; rfl
    rw [ean, et0, et1]
    rw [ean] at h9
    rw [et0] at h10
    rw [et1] at h11
    exact cd_tsU1 I A n hn hN s hs 8 ⟨by omega, by omega⟩ ek h10 h11 h9
  · obtain ⟨a, ha, ea⟩ := h3 (by omega)
    have ean : mz_anew (A 5) (A 6) s = (-1) := by unfold mz_anew; rw [ek]; rfl
    have et0 : mz_tak0 (A 5) (A 6) (A 7) s = nI a := by unfold mz_tak0; rw [ek, ← ea]; rfl
    have et1 : mz_tak1 (A 5) (A 7) (A 8) s = (-1) := by unfold mz_tak1; rw [ek]; rfl
    rw [ean, et0, et1]
    rw [ean] at h9
    rw [et0] at h10
    rw [et1] at h11
    exact cd_tsU2 I A n hn hN s hs 9 ⟨by omega, by omega⟩ ek a (by omega) h10 h11 h9
  · have ean : mz_anew (A 5) (A 6) s = (-1) := by unfold mz_anew; rw [ek]; rfl
    have et0 : mz_tak0 (A 5) (A 6) (A 7) s = (-1) := by unfold mz_tak0; rw [ek]; rfl
    have et1 : mz_tak1 (A 5) (A 7) (A 8) s = (-1) := by unfold mz_tak1; rw [ek]; rfl
    rw [ean, et0, et1]
    rw [ean] at h9
    rw [et0] at h10
    rw [et1] at h11
    exact cd_tsU1 I A n hn hN s hs 10 ⟨by omega, by omega⟩ ek h10 h11 h9
