set_option maxRecDepth 100000 in
set_option maxHeartbeats 4000000 in
theorem cd_inSlot {G : am_G} (I A : Nat → Nat → Int32) (v : Nat) (hv : v < 24) : Cm G MX2_inSlot 0 0 [.ref 15, .int (nI v)] I A (fun r I' A' => r = some (.int (bI (¬ A 20 v < nI 100))) ∧ I = I' ∧ A = A') := by
  refine Cm.of (by decide) (Nat.le_of_ble_eq_true rfl) rfl ?_
  show V G MX2_inSlot (am_R 0 0 0 0) _ 0 0 0 [(0, .ref 15), (1, .int (nI v))] [] (hp I A)
  refine V.aload_n (j := 0) rfl dX2_inSlot_0 ?_
  refine V.getr (q := 20) dX2_inSlot_1 fX2_24 rfl rfl ?_
  refine V.iload_n (j := 1) rfl dX2_inSlot_4 ?_
  refine V.lda (v := A 20 v) dX2_inSlot_5 rfl (by omega) (by decide) rfl ?_
  refine V.bipush (v := nI 100) (by decide) dX2_inSlot_6 ?_
  refine V.icmp_lt (tgt := 15) dX2_inSlot_8 (by decide) (fun c1 => ?_) (fun c1 => ?_)
  · refine V.iconst (v := nI 0) (by decide) dX2_inSlot_15 ?_
    refine V.rz dX2_inSlot_16 rfl (by decide) ?_
    exact ⟨am_s0 (fun z => z c1), rfl, rfl⟩
  · refine V.iconst (v := nI 1) (by decide) dX2_inSlot_11 ?_
    refine V.goto (tgt := 16) dX2_inSlot_12 (by decide) ?_
    refine V.rz dX2_inSlot_16 rfl (by decide) ?_
    exact ⟨am_s1 c1, rfl, rfl⟩
/-- value v is one of those that placesOf asks for: by registers (false), by slots (true) -/
def cz_pc (sl : Bool) (pl : Nat → Int32) (so : Int32) (v : Nat) : Prop := bg_t so v = true ∧ ¬ pl v = (-1) ∧ ((¬ pl v < nI 100) ↔ sl = true)
noncomputable def cz_po (sl : Bool) (fr : Int32) (pl : Nat → Int32) (so : Int32) : Nat → Nat → Int32 → Int32
  | 0, _, b => b
  | m + 1, v, b => cz_po sl fr pl so m (v + 1) (@ite _ (cz_pc sl pl so v) (Classical.propDecidable _) (b ||| nI 1 <<< ((pl v - fr) &&& 31)) b)
set_option maxRecDepth 100000 in
set_option maxHeartbeats 4000000 in
theorem cl_po0 {G : am_G} {Fn : Array Value → State → List Frame → State → Prop} (I A : Nat → Nat → Int32) (so : Int32) : ∀ (m : Nat) (v : Nat) (b : Int32), v + m = 24 → V G MX2_placesOf (am_R 1 21 0 0) Fn 0 0 73 [(3, .int (cz_po false (nI 0) (A 20) so m v b))] [] (hp I A) → V G MX2_placesOf (am_R 1 21 0 0) Fn 0 0 5 [(0, .ref 15), (1, .int so), (2, .int (nI 0)), (3, .int b), (4, .int (nI v))] [] (hp I A) := by
  intro m
  induction m with
  | zero =>
    intro v b hi0 hk
    refine V.iload (j := 4) rfl dX2_placesOf_5 ?_
    refine V.bipush (v := nI 24) (by decide) dX2_placesOf_7 ?_
    refine V.icmp_geN (tgt := 73) dX2_placesOf_9 (by decide) (by omega) (by omega) (fun c1 => ?_) (fun c1 => ?_)
    · refine V.fewer [3] rfl ?_
      exact hk
    · exact absurd c1 (by omega)
  | succ m ih =>
    intro v b hi0 hk
    refine V.iload (j := 4) rfl dX2_placesOf_5 ?_
    refine V.bipush (v := nI 24) (by decide) dX2_placesOf_7 ?_
    refine V.icmp_geN (tgt := 73) dX2_placesOf_9 (by decide) (by omega) (by omega) (fun c2 => ?_) (fun c2 => ?_)
    · exact absurd c2 (by omega)
    · refine V.iload_n (j := 1) rfl dX2_placesOf_12 ?_
      refine V.iload (j := 4) rfl dX2_placesOf_13 ?_
      refine V.cSN (As := [.int so, .int (nI v)]) (st := []) dX2_placesOf_15 sX2_70 zX7_has (cd_has I A _ v (by omega)) ⟨by decide, by decide⟩ (Nat.le_of_ble_eq_true rfl) rfl (fun r I' A' hq => ?_)
      obtain ⟨rfl, rfl, rfl⟩ := hq
      by_cases b3 : bg_t (so) (v) = true
      · refine V.st (st' := [.int (nI 1)]) (by rw [bI_t b3]; rfl) ?_
        refine V.if_eq (tgt := 67) dX2_placesOf_18 (by decide) (fun z => absurd z (by decide)) (fun _ => ?_)
        refine V.aload_n (j := 0) rfl dX2_placesOf_21 ?_
        refine V.getr (q := 20) dX2_placesOf_22 fX2_24 rfl rfl ?_
        refine V.iload (j := 4) rfl dX2_placesOf_25 ?_
        refine V.lda (v := A 20 v) dX2_placesOf_27 rfl (by omega) (by decide) rfl ?_
        refine V.iconst (v := (-1)) (by decide) dX2_placesOf_28 ?_
        refine V.icmp_eq (tgt := 67) dX2_placesOf_29 (by decide) (fun c5 => ?_) (fun c5 => ?_)
        · refine V.iincN (ls' := [(0, .ref 15), (1, .int so), (2, .int (nI 0)), (3, .int b), (4, .int (nI (v + 1)))]) dX2_placesOf_67 (j := 4) rfl (by decide) rfl ?_
          refine V.goto (tgt := 5) dX2_placesOf_70 (by decide) ?_
          unfold cz_po at hk
          rw [if_neg (fun z : cz_pc false (A 20) so v => z.2.1 c5)] at hk
          exact ih (v + 1) _ (by omega) hk
        · refine V.aload_n (j := 0) rfl dX2_placesOf_32 ?_
          refine V.iload (j := 4) rfl dX2_placesOf_33 ?_
          refine V.cV (As := [.int (nI v)]) (st := []) dX2_placesOf_35 sX2_94 iX2_inSlot lX2_inSlot rfl rfl (cd_inSlot I A v (by omega)) ⟨by decide, by decide⟩ (Nat.le_of_ble_eq_true rfl) rfl (fun r I' A' hq => ?_)
          obtain ⟨rfl, rfl, rfl⟩ := hq
          by_cases b6 : ¬ A 20 v < nI 100
          · refine V.st (st' := [.int (nI 1)]) (by rw [bI_t b6]; rfl) ?_
            refine V.iload_n (j := 2) rfl dX2_placesOf_38 ?_
            refine V.bipush (v := nI 100) (by decide) dX2_placesOf_39 ?_
            refine V.icmp_ne (tgt := 48) dX2_placesOf_41 (by decide) (fun _ => ?_) (fun z => absurd z (by decide))
            refine V.iconst (v := nI 0) (by decide) dX2_placesOf_48 ?_
            refine V.icmp_ne (tgt := 67) dX2_placesOf_49 (by decide) (fun _ => ?_) (fun z => absurd z (by decide))
            refine V.iincN (ls' := [(0, .ref 15), (1, .int so), (2, .int (nI 0)), (3, .int b), (4, .int (nI (v + 1)))]) dX2_placesOf_67 (j := 4) rfl (by decide) rfl ?_
            refine V.goto (tgt := 5) dX2_placesOf_70 (by decide) ?_
            unfold cz_po at hk
            rw [if_neg (fun z : cz_pc false (A 20) so v => absurd (z.2.2.mp b6) (by decide))] at hk
            exact ih (v + 1) _ (by omega) hk
          · refine V.st (st' := [.int (nI 0)]) (by rw [bI_f b6]; rfl) ?_
            refine V.iload_n (j := 2) rfl dX2_placesOf_38 ?_
            refine V.bipush (v := nI 100) (by decide) dX2_placesOf_39 ?_
            refine V.icmp_ne (tgt := 48) dX2_placesOf_41 (by decide) (fun _ => ?_) (fun z => absurd z (by decide))
            refine V.iconst (v := nI 0) (by decide) dX2_placesOf_48 ?_
            refine V.icmp_ne (tgt := 67) dX2_placesOf_49 (by decide) (fun z => absurd z (by decide)) (fun _ => ?_)
            refine V.iload_n (j := 3) rfl dX2_placesOf_52 ?_
            refine V.aload_n (j := 0) rfl dX2_placesOf_53 ?_
            refine V.getr (q := 20) dX2_placesOf_54 fX2_24 rfl rfl ?_
            refine V.iload (j := 4) rfl dX2_placesOf_57 ?_
            refine V.lda (v := A 20 v) dX2_placesOf_59 rfl (by omega) (by decide) rfl ?_
            refine V.iload_n (j := 2) rfl dX2_placesOf_60 ?_
            refine V.isub dX2_placesOf_61 ?_
            refine V.cSN (As := [.int ((A 20 v) - (nI 0))]) (st := [.int b]) dX2_placesOf_62 sX2_84 zX7_bit (cd_bit I A _) ⟨by decide, by decide⟩ (Nat.le_of_ble_eq_true rfl) rfl (fun r I' A' hq => ?_)
            obtain ⟨rfl, rfl, rfl⟩ := hq
            refine V.st (st' := [.int (nI 1 <<< (((A 20 v) - (nI 0)) &&& 31)), .int b]) rfl ?_
            refine V.ior dX2_placesOf_65 ?_
            refine V.istore_n (ls' := [(0, .ref 15), (1, .int so), (2, .int (nI 0)), (3, .int ((b) ||| (nI 1 <<< (((A 20 v) - (nI 0)) &&& 31)))), (4, .int (nI v))]) dX2_placesOf_66 (by decide) rfl ?_
            refine V.iincN (ls' := [(0, .ref 15), (1, .int so), (2, .int (nI 0)), (3, .int ((b) ||| (nI 1 <<< (((A 20 v) - (nI 0)) &&& 31)))), (4, .int (nI (v + 1)))]) dX2_placesOf_67 (j := 4) rfl (by decide) rfl ?_
            refine V.goto (tgt := 5) dX2_placesOf_70 (by decide) ?_
            unfold cz_po at hk
            rw [if_pos (show cz_pc false (A 20) so v from ⟨b3, c5, ⟨fun z => absurd z b6, fun z => absurd z (by decide)⟩⟩)] at hk
            exact ih (v + 1) _ (by omega) hk
      · refine V.st (st' := [.int (nI 0)]) (by rw [bI_f b3]; rfl) ?_
        refine V.if_eq (tgt := 67) dX2_placesOf_18 (by decide) (fun _ => ?_) (fun z => absurd z (by decide))
        refine V.iincN (ls' := [(0, .ref 15), (1, .int so), (2, .int (nI 0)), (3, .int b), (4, .int (nI (v + 1)))]) dX2_placesOf_67 (j := 4) rfl (by decide) rfl ?_
        refine V.goto (tgt := 5) dX2_placesOf_70 (by decide) ?_
        unfold cz_po at hk
        rw [if_neg (fun z : cz_pc false (A 20) so v => b3 z.1)] at hk
        exact ih (v + 1) _ (by omega) hk
set_option maxRecDepth 100000 in
set_option maxHeartbeats 4000000 in
theorem cd_po0 {G : am_G} (I A : Nat → Nat → Int32) (so : Int32) : Cm G MX2_placesOf 1 21 [.ref 15, .int so, .int (nI 0)] I A (fun r I' A' => r = some (.int (cz_po false (nI 0) (A 20) so 24 0 (nI 0))) ∧ I = I' ∧ A = A') := by
  refine Cm.of (by decide) (Nat.le_of_ble_eq_true rfl) rfl ?_
  show V G MX2_placesOf (am_R 1 21 0 0) _ 0 0 0 [(0, .ref 15), (1, .int so), (2, .int (nI 0))] [] (hp I A)
  refine V.iconst (v := nI 0) (by decide) dX2_placesOf_0 ?_
  refine V.istore_n (ls' := [(0, .ref 15), (1, .int so), (2, .int (nI 0)), (3, .int (nI 0))]) dX2_placesOf_1 (by decide) rfl ?_
  refine V.iconst (v := nI 0) (by decide) dX2_placesOf_2 ?_
  refine V.istore (ls' := [(0, .ref 15), (1, .int so), (2, .int (nI 0)), (3, .int (nI 0)), (4, .int (nI 0))]) dX2_placesOf_3 (by decide) rfl ?_
  refine cl_po0 I A so 24 0 _ (by omega) ?_
  refine V.iload_n (j := 0) rfl dX2_placesOf_73 ?_
  refine V.ri dX2_placesOf_74 rfl ?_
  exact ⟨rfl, rfl, rfl⟩
set_option maxRecDepth 100000 in
set_option maxHeartbeats 4000000 in
theorem cl_po100 {G : am_G} {Fn : Array Value → State → List Frame → State → Prop} (I A : Nat → Nat → Int32) (so : Int32) : ∀ (m : Nat) (v : Nat) (b : Int32), v + m = 24 → V G MX2_placesOf (am_R 1 21 0 0) Fn 0 0 73 [(3, .int (cz_po true (nI 100) (A 20) so m v b))] [] (hp I A) → V G MX2_placesOf (am_R 1 21 0 0) Fn 0 0 5 [(0, .ref 15), (1, .int so), (2, .int (nI 100)), (3, .int b), (4, .int (nI v))] [] (hp I A) := by
  intro m
  induction m with
  | zero =>
    intro v b hi0 hk
    refine V.iload (j := 4) rfl dX2_placesOf_5 ?_
    refine V.bipush (v := nI 24) (by decide) dX2_placesOf_7 ?_
    refine V.icmp_geN (tgt := 73) dX2_placesOf_9 (by decide) (by omega) (by omega) (fun c1 => ?_) (fun c1 => ?_)
    · refine V.fewer [3] rfl ?_
      exact hk
    · exact absurd c1 (by omega)
  | succ m ih =>
    intro v b hi0 hk
    refine V.iload (j := 4) rfl dX2_placesOf_5 ?_
    refine V.bipush (v := nI 24) (by decide) dX2_placesOf_7 ?_
    refine V.icmp_geN (tgt := 73) dX2_placesOf_9 (by decide) (by omega) (by omega) (fun c2 => ?_) (fun c2 => ?_)
    · exact absurd c2 (by omega)
    · refine V.iload_n (j := 1) rfl dX2_placesOf_12 ?_
      refine V.iload (j := 4) rfl dX2_placesOf_13 ?_
      refine V.cSN (As := [.int so, .int (nI v)]) (st := []) dX2_placesOf_15 sX2_70 zX7_has (cd_has I A _ v (by omega)) ⟨by decide, by decide⟩ (Nat.le_of_ble_eq_true rfl) rfl (fun r I' A' hq => ?_)
      obtain ⟨rfl, rfl, rfl⟩ := hq
      by_cases b3 : bg_t (so) (v) = true
      · refine V.st (st' := [.int (nI 1)]) (by rw [bI_t b3]; rfl) ?_
        refine V.if_eq (tgt := 67) dX2_placesOf_18 (by decide) (fun z => absurd z (by decide)) (fun _ => ?_)
        refine V.aload_n (j := 0) rfl dX2_placesOf_21 ?_
        refine V.getr (q := 20) dX2_placesOf_22 fX2_24 rfl rfl ?_
        refine V.iload (j := 4) rfl dX2_placesOf_25 ?_
        refine V.lda (v := A 20 v) dX2_placesOf_27 rfl (by omega) (by decide) rfl ?_
        refine V.iconst (v := (-1)) (by decide) dX2_placesOf_28 ?_
        refine V.icmp_eq (tgt := 67) dX2_placesOf_29 (by decide) (fun c5 => ?_) (fun c5 => ?_)
        · refine V.iincN (ls' := [(0, .ref 15), (1, .int so), (2, .int (nI 100)), (3, .int b), (4, .int (nI (v + 1)))]) dX2_placesOf_67 (j := 4) rfl (by decide) rfl ?_
          refine V.goto (tgt := 5) dX2_placesOf_70 (by decide) ?_
          unfold cz_po at hk
          rw [if_neg (fun z : cz_pc true (A 20) so v => z.2.1 c5)] at hk
          exact ih (v + 1) _ (by omega) hk
        · refine V.aload_n (j := 0) rfl dX2_placesOf_32 ?_
          refine V.iload (j := 4) rfl dX2_placesOf_33 ?_
          refine V.cV (As := [.int (nI v)]) (st := []) dX2_placesOf_35 sX2_94 iX2_inSlot lX2_inSlot rfl rfl (cd_inSlot I A v (by omega)) ⟨by decide, by decide⟩ (Nat.le_of_ble_eq_true rfl) rfl (fun r I' A' hq => ?_)
          obtain ⟨rfl, rfl, rfl⟩ := hq
          by_cases b6 : ¬ A 20 v < nI 100
          · refine V.st (st' := [.int (nI 1)]) (by rw [bI_t b6]; rfl) ?_
            refine V.iload_n (j := 2) rfl dX2_placesOf_38 ?_
            refine V.bipush (v := nI 100) (by decide) dX2_placesOf_39 ?_
            refine V.icmp_ne (tgt := 48) dX2_placesOf_41 (by decide) (fun z => absurd z (by decide)) (fun _ => ?_)
            refine V.iconst (v := nI 1) (by decide) dX2_placesOf_44 ?_
            refine V.goto (tgt := 49) dX2_placesOf_45 (by decide) ?_
            refine V.icmp_ne (tgt := 67) dX2_placesOf_49 (by decide) (fun z => absurd z (by decide)) (fun _ => ?_)
            refine V.iload_n (j := 3) rfl dX2_placesOf_52 ?_
            refine V.aload_n (j := 0) rfl dX2_placesOf_53 ?_
            refine V.getr (q := 20) dX2_placesOf_54 fX2_24 rfl rfl ?_
            refine V.iload (j := 4) rfl dX2_placesOf_57 ?_
            refine V.lda (v := A 20 v) dX2_placesOf_59 rfl (by omega) (by decide) rfl ?_
            refine V.iload_n (j := 2) rfl dX2_placesOf_60 ?_
            refine V.isub dX2_placesOf_61 ?_
            refine V.cSN (As := [.int ((A 20 v) - (nI 100))]) (st := [.int b]) dX2_placesOf_62 sX2_84 zX7_bit (cd_bit I A _) ⟨by decide, by decide⟩ (Nat.le_of_ble_eq_true rfl) rfl (fun r I' A' hq => ?_)
            obtain ⟨rfl, rfl, rfl⟩ := hq
            refine V.st (st' := [.int (nI 1 <<< (((A 20 v) - (nI 100)) &&& 31)), .int b]) rfl ?_
            refine V.ior dX2_placesOf_65 ?_
            refine V.istore_n (ls' := [(0, .ref 15), (1, .int so), (2, .int (nI 100)), (3, .int ((b) ||| (nI 1 <<< (((A 20 v) - (nI 100)) &&& 31)))), (4, .int (nI v))]) dX2_placesOf_66 (by decide) rfl ?_
            refine V.iincN (ls' := [(0, .ref 15), (1, .int so), (2, .int (nI 100)), (3, .int ((b) ||| (nI 1 <<< (((A 20 v) - (nI 100)) &&& 31)))), (4, .int (nI (v + 1)))]) dX2_placesOf_67 (j := 4) rfl (by decide) rfl ?_
            refine V.goto (tgt := 5) dX2_placesOf_70 (by decide) ?_
            unfold cz_po at hk
            rw [if_pos (show cz_pc true (A 20) so v from ⟨b3, c5, ⟨fun _ => rfl, fun _ => b6⟩⟩)] at hk
            exact ih (v + 1) _ (by omega) hk
          · refine V.st (st' := [.int (nI 0)]) (by rw [bI_f b6]; rfl) ?_
            refine V.iload_n (j := 2) rfl dX2_placesOf_38 ?_
            refine V.bipush (v := nI 100) (by decide) dX2_placesOf_39 ?_
            refine V.icmp_ne (tgt := 48) dX2_placesOf_41 (by decide) (fun z => absurd z (by decide)) (fun _ => ?_)
            refine V.iconst (v := nI 1) (by decide) dX2_placesOf_44 ?_
            refine V.goto (tgt := 49) dX2_placesOf_45 (by decide) ?_
            refine V.icmp_ne (tgt := 67) dX2_placesOf_49 (by decide) (fun _ => ?_) (fun z => absurd z (by decide))
            refine V.iincN (ls' := [(0, .ref 15), (1, .int so), (2, .int (nI 100)), (3, .int b), (4, .int (nI (v + 1)))]) dX2_placesOf_67 (j := 4) rfl (by decide) rfl ?_
            refine V.goto (tgt := 5) dX2_placesOf_70 (by decide) ?_
            unfold cz_po at hk
            rw [if_neg (fun z : cz_pc true (A 20) so v => b6 (z.2.2.mpr rfl))] at hk
            exact ih (v + 1) _ (by omega) hk
      · refine V.st (st' := [.int (nI 0)]) (by rw [bI_f b3]; rfl) ?_
        refine V.if_eq (tgt := 67) dX2_placesOf_18 (by decide) (fun _ => ?_) (fun z => absurd z (by decide))
        refine V.iincN (ls' := [(0, .ref 15), (1, .int so), (2, .int (nI 100)), (3, .int b), (4, .int (nI (v + 1)))]) dX2_placesOf_67 (j := 4) rfl (by decide) rfl ?_
        refine V.goto (tgt := 5) dX2_placesOf_70 (by decide) ?_
        unfold cz_po at hk
        rw [if_neg (fun z : cz_pc true (A 20) so v => b3 z.1)] at hk
        exact ih (v + 1) _ (by omega) hk
set_option maxRecDepth 100000 in
set_option maxHeartbeats 4000000 in
theorem cd_po100 {G : am_G} (I A : Nat → Nat → Int32) (so : Int32) : Cm G MX2_placesOf 1 21 [.ref 15, .int so, .int (nI 100)] I A (fun r I' A' => r = some (.int (cz_po true (nI 100) (A 20) so 24 0 (nI 0))) ∧ I = I' ∧ A = A') := by
  refine Cm.of (by decide) (Nat.le_of_ble_eq_true rfl) rfl ?_
  show V G MX2_placesOf (am_R 1 21 0 0) _ 0 0 0 [(0, .ref 15), (1, .int so), (2, .int (nI 100))] [] (hp I A)
  refine V.iconst (v := nI 0) (by decide) dX2_placesOf_0 ?_
  refine V.istore_n (ls' := [(0, .ref 15), (1, .int so), (2, .int (nI 100)), (3, .int (nI 0))]) dX2_placesOf_1 (by decide) rfl ?_
  refine V.iconst (v := nI 0) (by decide) dX2_placesOf_2 ?_
  refine V.istore (ls' := [(0, .ref 15), (1, .int so), (2, .int (nI 100)), (3, .int (nI 0)), (4, .int (nI 0))]) dX2_placesOf_3 (by decide) rfl ?_
  refine cl_po100 I A so 24 0 _ (by omega) ?_
  refine V.iload_n (j := 0) rfl dX2_placesOf_73 ?_
  refine V.ri dX2_placesOf_74 rfl ?_
  exact ⟨rfl, rfl, rfl⟩
noncomputable def cz_fr (pl : Nat → Int32) (R wy : Int32) : Int32 := ((nI 1 <<< (R &&& 31)) - (nI 1)) &&& ((cz_po false (nI 0) pl wy 24 0 (nI 0)) ^^^ (-1))
noncomputable def cz_sr (pl : Nat → Int32) (R wy jv : Int32) : Int32 := cz_fr pl R wy &&& cz_po false (nI 0) pl jv 24 0 (nI 0)
/-- the home that placeFor finds -/
noncomputable def cz_pf (pl : Nat → Int32) (R wy jv : Int32) : Nat := if ¬ cz_sr pl R wy jv = 0 then cz_lo (cz_sr pl R wy jv) 32 0 else if ¬ cz_fr pl R wy = 0 then cz_lo (cz_fr pl R wy) 32 0 else 100 + cz_lo ((cz_po true (nI 100) pl wy 24 0 (nI 0)) ^^^ (-1)) 32 0
set_option maxRecDepth 100000 in
set_option maxHeartbeats 4000000 in
theorem cd_pf {G : am_G} (I A : Nat → Nat → Int32) (v : Nat) (hv : v < 24) (R wy : Int32) : Cm G MX2_placeFor 2 45 [.ref 15, .int (nI v), .int R, .int wy] I A (fun r I' A' => r = some (.int (nI (cz_pf (A 20) R wy (A 19 v)))) ∧ I = I' ∧ A = A') := by
  refine Cm.of (by decide) (Nat.le_of_ble_eq_true rfl) rfl ?_
  show V G MX2_placeFor (am_R 2 45 0 0) _ 0 0 0 [(0, .ref 15), (1, .int (nI v)), (2, .int R), (3, .int wy)] [] (hp I A)
  refine V.iload_n (j := 2) rfl dX2_placeFor_0 ?_
  refine V.cSN (As := [.int R]) (st := []) dX2_placeFor_1 sX2_84 zX7_bit (cd_bit I A _) ⟨by decide, by decide⟩ (Nat.le_of_ble_eq_true rfl) rfl (fun r I' A' hq => ?_)
  obtain ⟨rfl, rfl, rfl⟩ := hq
  refine V.st (st' := [.int (nI 1 <<< ((R) &&& 31))]) rfl ?_
  refine V.iconst (v := nI 1) (by decide) dX2_placeFor_4 ?_
  refine V.isub dX2_placeFor_5 ?_
  refine V.aload_n (j := 0) rfl dX2_placeFor_6 ?_
  refine V.iload_n (j := 3) rfl dX2_placeFor_7 ?_
  refine V.iconst (v := nI 0) (by decide) dX2_placeFor_8 ?_
  refine V.cV (As := [.int wy, .int (nI 0)]) (st := [.int ((nI 1 <<< ((R) &&& 31)) - (nI 1))]) dX2_placeFor_9 sX2_88 iX2_placesOf lX2_placesOf rfl rfl (cd_po0 I A _) ⟨by decide, by decide⟩ (Nat.le_of_ble_eq_true rfl) rfl (fun r I' A' hq => ?_)
  obtain ⟨rfl, rfl, rfl⟩ := hq
  refine V.st (st' := [.int (cz_po false (nI 0) (A 20) (wy) 24 0 (nI 0)), .int ((nI 1 <<< ((R) &&& 31)) - (nI 1))]) rfl ?_
  refine V.iconst (v := (-1)) (by decide) dX2_placeFor_12 ?_
  refine V.ixor dX2_placeFor_13 ?_
  refine V.iand dX2_placeFor_14 ?_
  refine V.istore (ls' := [(0, .ref 15), (1, .int (nI v)), (2, .int R), (3, .int wy), (4, .int (((nI 1 <<< ((R) &&& 31)) - (nI 1)) &&& ((cz_po false (nI 0) (A 20) (wy) 24 0 (nI 0)) ^^^ ((-1)))))]) dX2_placeFor_15 (by decide) rfl ?_
  refine V.lse (ls' := [(0, .ref 15), (1, .int (nI v)), (2, .int R), (3, .int wy), (4, .int (cz_fr (A 20) R wy))]) rfl ?_
  refine V.iload (j := 4) rfl dX2_placeFor_17 ?_
  refine V.aload_n (j := 0) rfl dX2_placeFor_19 ?_
  refine V.aload_n (j := 0) rfl dX2_placeFor_20 ?_
  refine V.getr (q := 19) dX2_placeFor_21 fX2_21 rfl rfl ?_
  refine V.iload_n (j := 1) rfl dX2_placeFor_24 ?_
  refine V.lda (v := A 19 v) dX2_placeFor_25 rfl (by omega) (by decide) rfl ?_
  refine V.iconst (v := nI 0) (by decide) dX2_placeFor_26 ?_
  refine V.cV (As := [.int (A 19 v), .int (nI 0)]) (st := [.int (cz_fr (A 20) R wy)]) dX2_placeFor_27 sX2_88 iX2_placesOf lX2_placesOf rfl rfl (cd_po0 I A _) ⟨by decide, by decide⟩ (Nat.le_of_ble_eq_true rfl) rfl (fun r I' A' hq => ?_)
  obtain ⟨rfl, rfl, rfl⟩ := hq
  refine V.st (st' := [.int (cz_po false (nI 0) (A 20) (A 19 v) 24 0 (nI 0)), .int (cz_fr (A 20) R wy)]) rfl ?_
  refine V.iand dX2_placeFor_30 ?_
  refine V.istore (ls' := [(0, .ref 15), (1, .int (nI v)), (2, .int R), (3, .int wy), (4, .int (cz_fr (A 20) R wy)), (5, .int ((cz_fr (A 20) R wy) &&& (cz_po false (nI 0) (A 20) (A 19 v) 24 0 (nI 0))))]) dX2_placeFor_31 (by decide) rfl ?_
  refine V.lse (ls' := [(0, .ref 15), (1, .int (nI v)), (2, .int R), (3, .int wy), (4, .int (cz_fr (A 20) R wy)), (5, .int (cz_sr (A 20) R wy (A 19 v)))]) rfl ?_
  refine V.iload (j := 5) rfl dX2_placeFor_33 ?_
  refine V.if_eq (tgt := 44) dX2_placeFor_35 (by decide) (fun c1 => ?_) (fun c1 => ?_)
  · refine V.iload (j := 4) rfl dX2_placeFor_44 ?_
    refine V.if_eq (tgt := 55) dX2_placeFor_46 (by decide) (fun c2 => ?_) (fun c2 => ?_)
    · refine V.bipush (v := nI 100) (by decide) dX2_placeFor_55 ?_
      refine V.aload_n (j := 0) rfl dX2_placeFor_57 ?_
      refine V.iload_n (j := 3) rfl dX2_placeFor_58 ?_
      refine V.bipush (v := nI 100) (by decide) dX2_placeFor_59 ?_
      refine V.cV (As := [.int wy, .int (nI 100)]) (st := [.int (nI 100)]) dX2_placeFor_61 sX2_88 iX2_placesOf lX2_placesOf rfl rfl (cd_po100 I A _) ⟨by decide, by decide⟩ (Nat.le_of_ble_eq_true rfl) rfl (fun r I' A' hq => ?_)
      obtain ⟨rfl, rfl, rfl⟩ := hq
      refine V.st (st' := [.int (cz_po true (nI 100) (A 20) (wy) 24 0 (nI 0)), .int (nI 100)]) rfl ?_
      refine V.iconst (v := (-1)) (by decide) dX2_placeFor_64 ?_
      refine V.ixor dX2_placeFor_65 ?_
      refine V.cSN (As := [.int ((cz_po true (nI 100) (A 20) (wy) 24 0 (nI 0)) ^^^ ((-1)))]) (st := [.int (nI 100)]) dX2_placeFor_66 sX2_91 zX7_leastOf (cd_least I A _) ⟨by decide, by decide⟩ (Nat.le_of_ble_eq_true rfl) rfl (fun r I' A' hq => ?_)
      obtain ⟨rfl, rfl, rfl⟩ := hq
      refine V.st (st' := [.int (nI (cz_lo ((cz_po true (nI 100) (A 20) (wy) 24 0 (nI 0)) ^^^ ((-1))) 32 0)), .int (nI 100)]) rfl ?_
      refine V.iaddN dX2_placeFor_69 ?_
      refine V.ri dX2_placeFor_70 rfl ?_
      exact ⟨by unfold cz_pf; rw [if_neg (fun z => z c1), if_neg (fun z => z c2)], rfl, rfl⟩
    · refine V.iload (j := 4) rfl dX2_placeFor_49 ?_
      refine V.cSN (As := [.int (cz_fr (A 20) R wy)]) (st := []) dX2_placeFor_51 sX2_91 zX7_leastOf (cd_least I A _) ⟨by decide, by decide⟩ (Nat.le_of_ble_eq_true rfl) rfl (fun r I' A' hq => ?_)
      obtain ⟨rfl, rfl, rfl⟩ := hq
      refine V.st (st' := [.int (nI (cz_lo (cz_fr (A 20) R wy) 32 0))]) rfl ?_
      refine V.ri dX2_placeFor_54 rfl ?_
      exact ⟨by unfold cz_pf; rw [if_neg (fun z => z c1), if_pos c2], rfl, rfl⟩
  · refine V.iload (j := 5) rfl dX2_placeFor_38 ?_
    refine V.cSN (As := [.int (cz_sr (A 20) R wy (A 19 v))]) (st := []) dX2_placeFor_40 sX2_91 zX7_leastOf (cd_least I A _) ⟨by decide, by decide⟩ (Nat.le_of_ble_eq_true rfl) rfl (fun r I' A' hq => ?_)
    obtain ⟨rfl, rfl, rfl⟩ := hq
    refine V.st (st' := [.int (nI (cz_lo (cz_sr (A 20) R wy (A 19 v)) 32 0))]) rfl ?_
    refine V.ri dX2_placeFor_43 rfl ?_
    exact ⟨by unfold cz_pf; rw [if_pos c1], rfl, rfl⟩
set_option maxRecDepth 100000 in
set_option maxHeartbeats 4000000 in
theorem cl_forget {G : am_G} {Fn : Array Value → State → List Frame → State → Prop} (I A : Nat → Nat → Int32) (nv : Nat) (hnv : nv ≤ 24) : ∀ (m : Nat) (v : Nat) (f : Nat → Int32) (g : Nat → Int32) (h : Nat → Int32), v + m = nv → V G MX2_forget (am_R 0 0 0 0) Fn 0 0 34 [(0, .ref 15)] [] (hp I (upA (upA (upA A 17 (mz_fill m v f)) 19 (mz_fill m v g)) 20 (mz_none m v h))) → V G MX2_forget (am_R 0 0 0 0) Fn 0 0 2 [(0, .ref 15), (1, .int (nI nv)), (2, .int (nI v))] [] (hp I (upA (upA (upA A 17 (f)) 19 (g)) 20 (h))) := by
  intro m
  induction m with
  | zero =>
    intro v f g h hi0 hk
    refine V.iload_n (j := 2) rfl dX2_forget_2 ?_
    refine V.iload_n (j := 1) rfl dX2_forget_3 ?_
    refine V.icmp_geN (tgt := 34) dX2_forget_4 (by decide) (by omega) (by omega) (fun c1 => ?_) (fun c1 => ?_)
    · refine V.fewer [0] rfl ?_
      exact hk
    · exact absurd c1 (by omega)
  | succ m ih =>
    intro v f g h hi0 hk
    refine V.iload_n (j := 2) rfl dX2_forget_2 ?_
    refine V.iload_n (j := 1) rfl dX2_forget_3 ?_
    refine V.icmp_geN (tgt := 34) dX2_forget_4 (by decide) (by omega) (by omega) (fun c2 => ?_) (fun c2 => ?_)
    · exact absurd c2 (by omega)
    · refine V.aload_n (j := 0) rfl dX2_forget_7 ?_
      refine V.getr (q := 17) dX2_forget_8 fX2_15 rfl rfl ?_
      refine V.iload_n (j := 2) rfl dX2_forget_11 ?_
      refine V.iconst (v := nI 0) (by decide) dX2_forget_12 ?_
      refine V.sta (g := upd f v (nI 0)) dX2_forget_13 rfl (by omega) (by decide) rfl ?_
      refine V.hpe (A' := (upA (upA (upA A 17 (upd f v (nI 0))) 19 (g)) 20 (h))) rfl (upA_r3 (by decide) (by decide)) ?_
      refine V.aload_n (j := 0) rfl dX2_forget_14 ?_
      refine V.getr (q := 19) dX2_forget_15 fX2_21 rfl rfl ?_
      refine V.iload_n (j := 2) rfl dX2_forget_18 ?_
      refine V.iconst (v := nI 0) (by decide) dX2_forget_19 ?_
      refine V.sta (g := upd g v (nI 0)) dX2_forget_20 rfl (by omega) (by decide) rfl ?_
      refine V.hpe (A' := (upA (upA (upA A 17 (upd f v (nI 0))) 19 (upd g v (nI 0))) 20 (h))) rfl (upA_r2 (by decide)) ?_
      refine V.aload_n (j := 0) rfl dX2_forget_21 ?_
      refine V.getr (q := 20) dX2_forget_22 fX2_24 rfl rfl ?_
      refine V.iload_n (j := 2) rfl dX2_forget_25 ?_
      refine V.iconst (v := (-1)) (by decide) dX2_forget_26 ?_
      refine V.sta (g := upd h v ((-1))) dX2_forget_27 rfl (by omega) (by decide) rfl ?_
      refine V.hpe (A' := (upA (upA (upA A 17 (upd f v (nI 0))) 19 (upd g v (nI 0))) 20 (upd h v ((-1))))) rfl upA_u ?_
      refine V.iincN (ls' := [(0, .ref 15), (1, .int (nI nv)), (2, .int (nI (v + 1)))]) dX2_forget_28 (j := 2) rfl (by decide) rfl ?_
      refine V.goto (tgt := 2) dX2_forget_31 (by decide) ?_
      exact ih (v + 1) _ _ _ (by omega) hk
set_option maxRecDepth 100000 in
set_option maxHeartbeats 4000000 in
theorem cd_forget {G : am_G} (I A : Nat → Nat → Int32) (nv : Nat) (hnv : nv ≤ 24) : Cm G MX2_forget 0 0 [.ref 15, .int (nI nv)] I A (fun r I' A' => r = none ∧ I = I' ∧ upA (upA (upA A 17 (mz_fill nv 0 (A 17))) 19 (mz_fill nv 0 (A 19))) 20 (mz_none nv 0 (A 20)) = A') := by
  refine Cm.of (by decide) (Nat.le_of_ble_eq_true rfl) rfl ?_
  show V G MX2_forget (am_R 0 0 0 0) _ 0 0 0 [(0, .ref 15), (1, .int (nI nv))] [] (hp I A)
  refine V.iconst (v := nI 0) (by decide) dX2_forget_0 ?_
  refine V.istore_n (ls' := [(0, .ref 15), (1, .int (nI nv)), (2, .int (nI 0))]) dX2_forget_1 (by decide) rfl ?_
  refine V.hpe (A' := (upA (upA (upA A 17 (A 17)) 19 (A 19)) 20 (A 20))) rfl (by rw [upA_i, upA_i, upA_i]) ?_
  refine cl_forget I A nv hnv nv 0 _ _ _ (by omega) ?_
  refine V.rv dX2_forget_34 rfl ?_
  exact ⟨rfl, rfl, rfl⟩
set_option maxRecDepth 100000 in
set_option maxHeartbeats 4000000 in
theorem cd_weigh0 {G : am_G} (I A : Nat → Nat → Int32) (hst : am_sta G) (s : Nat) (hs : s < 60) (k : Nat) (hk10 : k ≤ 10) (hk : A 5 s = nI k) (hm : cz_nm k = nI 0)  : Cm G MX2_weigh 1 22 [.ref 15, .ref 4, .int (nI s)] I A (fun r I' A' => r = none ∧ I = I' ∧ upA A 17 (A 17) = A') := by
  refine Cm.of (by decide) (Nat.le_of_ble_eq_true rfl) rfl ?_
  show V G MX2_weigh (am_R 1 22 0 0) _ 0 0 0 [(0, .ref 15), (1, .ref 4), (2, .int (nI s))] [] (hp I A)
  refine V.getsN (a := 0) dX2_weigh_0 (by decide) gX2_64 ?_
  refine V.aload_n (j := 1) rfl dX2_weigh_3 ?_
  refine V.getr (q := 5) dX2_weigh_4 fX2_67 rfl rfl ?_
  refine V.iload_n (j := 2) rfl dX2_weigh_7 ?_
  refine V.lda (v := nI k) dX2_weigh_8 rfl (by omega) (by decide) hk ?_
  refine V.ildL (v := nI 0) dX2_weigh_9 (by decide) (by rw [hst.1]; exact vp_in_nI (by omega) (by decide)) (by rw [nI_clamp (by omega), hst.2.2.1 k (by omega)]; exact hm) ?_
  refine V.istore_n (ls' := [(0, .ref 15), (1, .ref 4), (2, .int (nI s)), (3, .int (nI 0))]) dX2_weigh_10 (by decide) rfl ?_
  refine V.iconst (v := nI 0) (by decide) dX2_weigh_11 ?_
  refine V.istore (ls' := [(0, .ref 15), (1, .ref 4), (2, .int (nI s)), (3, .int (nI 0)), (4, .int (nI 0))]) dX2_weigh_12 (by decide) rfl ?_
  refine V.iload (j := 4) rfl dX2_weigh_14 ?_
  refine V.iconst (v := nI 3) (by decide) dX2_weigh_16 ?_
  refine V.icmp_ge (tgt := 53) dX2_weigh_17 (by decide) (fun z => absurd z (by decide)) (fun _ => ?_)
  refine V.iload_n (j := 3) rfl dX2_weigh_20 ?_
  refine V.iload (j := 4) rfl dX2_weigh_21 ?_
  refine V.cSN (As := [.int (nI 0), .int (nI 0)]) (st := []) dX2_weigh_23 sX2_70 zX7_has (cd_has I A _ 0 (by omega)) ⟨by decide, by decide⟩ (Nat.le_of_ble_eq_true rfl) rfl (fun r I' A' hq => ?_)
  obtain ⟨rfl, rfl, rfl⟩ := hq
  refine V.st (st' := [.int (nI 0)]) (by rw [bI_f (by decide)]; rfl) ?_
  refine V.if_eq (tgt := 47) dX2_weigh_26 (by decide) (fun _ => ?_) (fun z => absurd z (by decide))
  refine V.iincN (ls' := [(0, .ref 15), (1, .ref 4), (2, .int (nI s)), (3, .int (nI 0)), (4, .int (nI 1))]) dX2_weigh_47 (j := 4) rfl (by decide) rfl ?_
  refine V.goto (tgt := 14) dX2_weigh_50 (by decide) ?_
  refine V.iload (j := 4) rfl dX2_weigh_14 ?_
  refine V.iconst (v := nI 3) (by decide) dX2_weigh_16 ?_
  refine V.icmp_ge (tgt := 53) dX2_weigh_17 (by decide) (fun z => absurd z (by decide)) (fun _ => ?_)
  refine V.iload_n (j := 3) rfl dX2_weigh_20 ?_
  refine V.iload (j := 4) rfl dX2_weigh_21 ?_
  refine V.cSN (As := [.int (nI 0), .int (nI 1)]) (st := []) dX2_weigh_23 sX2_70 zX7_has (cd_has I A _ 1 (by omega)) ⟨by decide, by decide⟩ (Nat.le_of_ble_eq_true rfl) rfl (fun r I' A' hq => ?_)
  obtain ⟨rfl, rfl, rfl⟩ := hq
  refine V.st (st' := [.int (nI 0)]) (by rw [bI_f (by decide)]; rfl) ?_
  refine V.if_eq (tgt := 47) dX2_weigh_26 (by decide) (fun _ => ?_) (fun z => absurd z (by decide))
  refine V.iincN (ls' := [(0, .ref 15), (1, .ref 4), (2, .int (nI s)), (3, .int (nI 0)), (4, .int (nI 2))]) dX2_weigh_47 (j := 4) rfl (by decide) rfl ?_
  refine V.goto (tgt := 14) dX2_weigh_50 (by decide) ?_
  refine V.iload (j := 4) rfl dX2_weigh_14 ?_
  refine V.iconst (v := nI 3) (by decide) dX2_weigh_16 ?_
  refine V.icmp_ge (tgt := 53) dX2_weigh_17 (by decide) (fun z => absurd z (by decide)) (fun _ => ?_)
  refine V.iload_n (j := 3) rfl dX2_weigh_20 ?_
  refine V.iload (j := 4) rfl dX2_weigh_21 ?_
  refine V.cSN (As := [.int (nI 0), .int (nI 2)]) (st := []) dX2_weigh_23 sX2_70 zX7_has (cd_has I A _ 2 (by omega)) ⟨by decide, by decide⟩ (Nat.le_of_ble_eq_true rfl) rfl (fun r I' A' hq => ?_)
  obtain ⟨rfl, rfl, rfl⟩ := hq
  refine V.st (st' := [.int (nI 0)]) (by rw [bI_f (by decide)]; rfl) ?_
  refine V.if_eq (tgt := 47) dX2_weigh_26 (by decide) (fun _ => ?_) (fun z => absurd z (by decide))
  refine V.iincN (ls' := [(0, .ref 15), (1, .ref 4), (2, .int (nI s)), (3, .int (nI 0)), (4, .int (nI 3))]) dX2_weigh_47 (j := 4) rfl (by decide) rfl ?_
  refine V.goto (tgt := 14) dX2_weigh_50 (by decide) ?_
  refine V.iload (j := 4) rfl dX2_weigh_14 ?_
  refine V.iconst (v := nI 3) (by decide) dX2_weigh_16 ?_
  refine V.icmp_ge (tgt := 53) dX2_weigh_17 (by decide) (fun _ => ?_) (fun z => absurd z (by decide))
  refine V.rv dX2_weigh_53 rfl ?_
  exact ⟨rfl, rfl, by rw [upA_i]⟩
set_option maxRecDepth 100000 in
set_option maxHeartbeats 4000000 in
theorem cd_weigh1 {G : am_G} (I A : Nat → Nat → Int32) (hst : am_sta G) (s : Nat) (hs : s < 60) (k : Nat) (hk10 : k ≤ 10) (hk : A 5 s = nI k) (hm : cz_nm k = nI 1) (a : Nat) (ha : a < 24) (ea : A 6 s = nI a) : Cm G MX2_weigh 1 22 [.ref 15, .ref 4, .int (nI s)] I A (fun r I' A' => r = none ∧ I = I' ∧ upA A 17 (mz_inc (A 17) (nI a)) = A') := by
  refine Cm.of (by decide) (Nat.le_of_ble_eq_true rfl) rfl ?_
  show V G MX2_weigh (am_R 1 22 0 0) _ 0 0 0 [(0, .ref 15), (1, .ref 4), (2, .int (nI s))] [] (hp I A)
  refine V.getsN (a := 0) dX2_weigh_0 (by decide) gX2_64 ?_
  refine V.aload_n (j := 1) rfl dX2_weigh_3 ?_
  refine V.getr (q := 5) dX2_weigh_4 fX2_67 rfl rfl ?_
  refine V.iload_n (j := 2) rfl dX2_weigh_7 ?_
  refine V.lda (v := nI k) dX2_weigh_8 rfl (by omega) (by decide) hk ?_
  refine V.ildL (v := nI 1) dX2_weigh_9 (by decide) (by rw [hst.1]; exact vp_in_nI (by omega) (by decide)) (by rw [nI_clamp (by omega), hst.2.2.1 k (by omega)]; exact hm) ?_
  refine V.istore_n (ls' := [(0, .ref 15), (1, .ref 4), (2, .int (nI s)), (3, .int (nI 1))]) dX2_weigh_10 (by decide) rfl ?_
  refine V.iconst (v := nI 0) (by decide) dX2_weigh_11 ?_
  refine V.istore (ls' := [(0, .ref 15), (1, .ref 4), (2, .int (nI s)), (3, .int (nI 1)), (4, .int (nI 0))]) dX2_weigh_12 (by decide) rfl ?_
  refine V.iload (j := 4) rfl dX2_weigh_14 ?_
  refine V.iconst (v := nI 3) (by decide) dX2_weigh_16 ?_
  refine V.icmp_ge (tgt := 53) dX2_weigh_17 (by decide) (fun z => absurd z (by decide)) (fun _ => ?_)
  refine V.iload_n (j := 3) rfl dX2_weigh_20 ?_
  refine V.iload (j := 4) rfl dX2_weigh_21 ?_
  refine V.cSN (As := [.int (nI 1), .int (nI 0)]) (st := []) dX2_weigh_23 sX2_70 zX7_has (cd_has I A _ 0 (by omega)) ⟨by decide, by decide⟩ (Nat.le_of_ble_eq_true rfl) rfl (fun r I' A' hq => ?_)
  obtain ⟨rfl, rfl, rfl⟩ := hq
  refine V.st (st' := [.int (nI 1)]) (by rw [bI_t (by decide)]; rfl) ?_
  refine V.if_eq (tgt := 47) dX2_weigh_26 (by decide) (fun z => absurd z (by decide)) (fun _ => ?_)
  refine V.aload_n (j := 0) rfl dX2_weigh_29 ?_
  refine V.getr (q := 17) dX2_weigh_30 fX2_15 rfl rfl ?_
  refine V.aload_n (j := 1) rfl dX2_weigh_33 ?_
  refine V.iload_n (j := 2) rfl dX2_weigh_34 ?_
  refine V.iload (j := 4) rfl dX2_weigh_35 ?_
  refine V.iconst (v := nI 1) (by decide) dX2_weigh_37 ?_
  refine V.iaddN dX2_weigh_38 ?_
  refine V.st (st' := [.int (nI 1), .int (nI s), .ref 4, .ref 17]) rfl ?_
  refine V.cV (As := [.int (nI s), .int (nI 1)]) (st := [.ref 17]) dX2_weigh_39 sX2_74 iX3_part lX3_part rfl rfl (cd_part4 I A s hs _) ⟨by decide, by decide⟩ (Nat.le_of_ble_eq_true rfl) rfl (fun r I' A' hq => ?_)
  obtain ⟨rfl, rfl, rfl⟩ := hq
  refine V.st (st' := [.int (nI a), .ref 17]) (congrArg (fun x => Value.int x :: [.ref 17]) (show A 6 s = nI a from ea)) ?_
  refine V.dup2 rfl rfl dX2_weigh_42 ?_
  refine V.lda (v := A 17 a) dX2_weigh_43 rfl (by omega) (by decide) rfl ?_
  refine V.iconst (v := nI 1) (by decide) dX2_weigh_44 ?_
  refine V.iadd dX2_weigh_45 ?_
  refine V.sta (g := upd (A 17) a ((A 17 a) + (nI 1))) dX2_weigh_46 rfl (by omega) (by decide) rfl ?_
  refine V.iincN (ls' := [(0, .ref 15), (1, .ref 4), (2, .int (nI s)), (3, .int (nI 1)), (4, .int (nI 1))]) dX2_weigh_47 (j := 4) rfl (by decide) rfl ?_
  refine V.goto (tgt := 14) dX2_weigh_50 (by decide) ?_
  refine V.iload (j := 4) rfl dX2_weigh_14 ?_
  refine V.iconst (v := nI 3) (by decide) dX2_weigh_16 ?_
  refine V.icmp_ge (tgt := 53) dX2_weigh_17 (by decide) (fun z => absurd z (by decide)) (fun _ => ?_)
  refine V.iload_n (j := 3) rfl dX2_weigh_20 ?_
  refine V.iload (j := 4) rfl dX2_weigh_21 ?_
  refine V.cSN (As := [.int (nI 1), .int (nI 1)]) (st := []) dX2_weigh_23 sX2_70 zX7_has (cd_has I (upA A 17 (upd (A 17) a ((A 17 a) + (nI 1)))) _ 1 (by omega)) ⟨by decide, by decide⟩ (Nat.le_of_ble_eq_true rfl) rfl (fun r I' A' hq => ?_)
  obtain ⟨rfl, rfl, rfl⟩ := hq
  refine V.st (st' := [.int (nI 0)]) (by rw [bI_f (by decide)]; rfl) ?_
  refine V.if_eq (tgt := 47) dX2_weigh_26 (by decide) (fun _ => ?_) (fun z => absurd z (by decide))
  refine V.iincN (ls' := [(0, .ref 15), (1, .ref 4), (2, .int (nI s)), (3, .int (nI 1)), (4, .int (nI 2))]) dX2_weigh_47 (j := 4) rfl (by decide) rfl ?_
  refine V.goto (tgt := 14) dX2_weigh_50 (by decide) ?_
  refine V.iload (j := 4) rfl dX2_weigh_14 ?_
  refine V.iconst (v := nI 3) (by decide) dX2_weigh_16 ?_
  refine V.icmp_ge (tgt := 53) dX2_weigh_17 (by decide) (fun z => absurd z (by decide)) (fun _ => ?_)
  refine V.iload_n (j := 3) rfl dX2_weigh_20 ?_
  refine V.iload (j := 4) rfl dX2_weigh_21 ?_
  refine V.cSN (As := [.int (nI 1), .int (nI 2)]) (st := []) dX2_weigh_23 sX2_70 zX7_has (cd_has I (upA A 17 (upd (A 17) a ((A 17 a) + (nI 1)))) _ 2 (by omega)) ⟨by decide, by decide⟩ (Nat.le_of_ble_eq_true rfl) rfl (fun r I' A' hq => ?_)
  obtain ⟨rfl, rfl, rfl⟩ := hq
  refine V.st (st' := [.int (nI 0)]) (by rw [bI_f (by decide)]; rfl) ?_
  refine V.if_eq (tgt := 47) dX2_weigh_26 (by decide) (fun _ => ?_) (fun z => absurd z (by decide))
  refine V.iincN (ls' := [(0, .ref 15), (1, .ref 4), (2, .int (nI s)), (3, .int (nI 1)), (4, .int (nI 3))]) dX2_weigh_47 (j := 4) rfl (by decide) rfl ?_
  refine V.goto (tgt := 14) dX2_weigh_50 (by decide) ?_
  refine V.iload (j := 4) rfl dX2_weigh_14 ?_
  refine V.iconst (v := nI 3) (by decide) dX2_weigh_16 ?_
  refine V.icmp_ge (tgt := 53) dX2_weigh_17 (by decide) (fun _ => ?_) (fun z => absurd z (by decide))
  refine V.rv dX2_weigh_53 rfl ?_
  exact ⟨rfl, rfl, by rw [mz_inc_n (show a < 2 ^ 31 by omega)]⟩
set_option maxRecDepth 100000 in
set_option maxHeartbeats 4000000 in
theorem cd_weigh3 {G : am_G} (I A : Nat → Nat → Int32) (hst : am_sta G) (s : Nat) (hs : s < 60) (k : Nat) (hk10 : k ≤ 10) (hk : A 5 s = nI k) (hm : cz_nm k = nI 3) (a : Nat) (ha : a < 24) (ea : A 6 s = nI a) (b : Nat) (hb : b < 24) (eb : A 7 s = nI b) : Cm G MX2_weigh 1 22 [.ref 15, .ref 4, .int (nI s)] I A (fun r I' A' => r = none ∧ I = I' ∧ upA A 17 (mz_inc (mz_inc (A 17) (nI a)) (nI b)) = A') := by
  refine Cm.of (by decide) (Nat.le_of_ble_eq_true rfl) rfl ?_
  show V G MX2_weigh (am_R 1 22 0 0) _ 0 0 0 [(0, .ref 15), (1, .ref 4), (2, .int (nI s))] [] (hp I A)
  refine V.getsN (a := 0) dX2_weigh_0 (by decide) gX2_64 ?_
  refine V.aload_n (j := 1) rfl dX2_weigh_3 ?_
  refine V.getr (q := 5) dX2_weigh_4 fX2_67 rfl rfl ?_
  refine V.iload_n (j := 2) rfl dX2_weigh_7 ?_
  refine V.lda (v := nI k) dX2_weigh_8 rfl (by omega) (by decide) hk ?_
  refine V.ildL (v := nI 3) dX2_weigh_9 (by decide) (by rw [hst.1]; exact vp_in_nI (by omega) (by decide)) (by rw [nI_clamp (by omega), hst.2.2.1 k (by omega)]; exact hm) ?_
  refine V.istore_n (ls' := [(0, .ref 15), (1, .ref 4), (2, .int (nI s)), (3, .int (nI 3))]) dX2_weigh_10 (by decide) rfl ?_
  refine V.iconst (v := nI 0) (by decide) dX2_weigh_11 ?_
  refine V.istore (ls' := [(0, .ref 15), (1, .ref 4), (2, .int (nI s)), (3, .int (nI 3)), (4, .int (nI 0))]) dX2_weigh_12 (by decide) rfl ?_
  refine V.iload (j := 4) rfl dX2_weigh_14 ?_
  refine V.iconst (v := nI 3) (by decide) dX2_weigh_16 ?_
  refine V.icmp_ge (tgt := 53) dX2_weigh_17 (by decide) (fun z => absurd z (by decide)) (fun _ => ?_)
  refine V.iload_n (j := 3) rfl dX2_weigh_20 ?_
  refine V.iload (j := 4) rfl dX2_weigh_21 ?_
  refine V.cSN (As := [.int (nI 3), .int (nI 0)]) (st := []) dX2_weigh_23 sX2_70 zX7_has (cd_has I A _ 0 (by omega)) ⟨by decide, by decide⟩ (Nat.le_of_ble_eq_true rfl) rfl (fun r I' A' hq => ?_)
  obtain ⟨rfl, rfl, rfl⟩ := hq
  refine V.st (st' := [.int (nI 1)]) (by rw [bI_t (by decide)]; rfl) ?_
  refine V.if_eq (tgt := 47) dX2_weigh_26 (by decide) (fun z => absurd z (by decide)) (fun _ => ?_)
  refine V.aload_n (j := 0) rfl dX2_weigh_29 ?_
  refine V.getr (q := 17) dX2_weigh_30 fX2_15 rfl rfl ?_
  refine V.aload_n (j := 1) rfl dX2_weigh_33 ?_
  refine V.iload_n (j := 2) rfl dX2_weigh_34 ?_
  refine V.iload (j := 4) rfl dX2_weigh_35 ?_
  refine V.iconst (v := nI 1) (by decide) dX2_weigh_37 ?_
  refine V.iaddN dX2_weigh_38 ?_
  refine V.st (st' := [.int (nI 1), .int (nI s), .ref 4, .ref 17]) rfl ?_
  refine V.cV (As := [.int (nI s), .int (nI 1)]) (st := [.ref 17]) dX2_weigh_39 sX2_74 iX3_part lX3_part rfl rfl (cd_part4 I A s hs _) ⟨by decide, by decide⟩ (Nat.le_of_ble_eq_true rfl) rfl (fun r I' A' hq => ?_)
  obtain ⟨rfl, rfl, rfl⟩ := hq
  refine V.st (st' := [.int (nI a), .ref 17]) (congrArg (fun x => Value.int x :: [.ref 17]) (show A 6 s = nI a from ea)) ?_
  refine V.dup2 rfl rfl dX2_weigh_42 ?_
  refine V.lda (v := A 17 a) dX2_weigh_43 rfl (by omega) (by decide) rfl ?_
  refine V.iconst (v := nI 1) (by decide) dX2_weigh_44 ?_
  refine V.iadd dX2_weigh_45 ?_
  refine V.sta (g := upd (A 17) a ((A 17 a) + (nI 1))) dX2_weigh_46 rfl (by omega) (by decide) rfl ?_
  refine V.iincN (ls' := [(0, .ref 15), (1, .ref 4), (2, .int (nI s)), (3, .int (nI 3)), (4, .int (nI 1))]) dX2_weigh_47 (j := 4) rfl (by decide) rfl ?_
  refine V.goto (tgt := 14) dX2_weigh_50 (by decide) ?_
  refine V.iload (j := 4) rfl dX2_weigh_14 ?_
  refine V.iconst (v := nI 3) (by decide) dX2_weigh_16 ?_
  refine V.icmp_ge (tgt := 53) dX2_weigh_17 (by decide) (fun z => absurd z (by decide)) (fun _ => ?_)
  refine V.iload_n (j := 3) rfl dX2_weigh_20 ?_
  refine V.iload (j := 4) rfl dX2_weigh_21 ?_
  refine V.cSN (As := [.int (nI 3), .int (nI 1)]) (st := []) dX2_weigh_23 sX2_70 zX7_has (cd_has I (upA A 17 (upd (A 17) a ((A 17 a) + (nI 1)))) _ 1 (by omega)) ⟨by decide, by decide⟩ (Nat.le_of_ble_eq_true rfl) rfl (fun r I' A' hq => ?_)
  obtain ⟨rfl, rfl, rfl⟩ := hq
  refine V.st (st' := [.int (nI 1)]) (by rw [bI_t (by decide)]; rfl) ?_
  refine V.if_eq (tgt := 47) dX2_weigh_26 (by decide) (fun z => absurd z (by decide)) (fun _ => ?_)
  refine V.aload_n (j := 0) rfl dX2_weigh_29 ?_
  refine V.getr (q := 17) dX2_weigh_30 fX2_15 rfl rfl ?_
  refine V.aload_n (j := 1) rfl dX2_weigh_33 ?_
  refine V.iload_n (j := 2) rfl dX2_weigh_34 ?_
  refine V.iload (j := 4) rfl dX2_weigh_35 ?_
  refine V.iconst (v := nI 1) (by decide) dX2_weigh_37 ?_
  refine V.iaddN dX2_weigh_38 ?_
  refine V.st (st' := [.int (nI 2), .int (nI s), .ref 4, .ref 17]) rfl ?_
  refine V.cV (As := [.int (nI s), .int (nI 2)]) (st := [.ref 17]) dX2_weigh_39 sX2_74 iX3_part lX3_part rfl rfl (cd_part4 I (upA A 17 (upd (A 17) a ((A 17 a) + (nI 1)))) s hs _) ⟨by decide, by decide⟩ (Nat.le_of_ble_eq_true rfl) rfl (fun r I' A' hq => ?_)
  obtain ⟨rfl, rfl, rfl⟩ := hq
  refine V.st (st' := [.int (nI b), .ref 17]) (congrArg (fun x => Value.int x :: [.ref 17]) (show A 7 s = nI b from eb)) ?_
  refine V.dup2 rfl rfl dX2_weigh_42 ?_
  refine V.lda (v := (upd (A 17) a ((A 17 a) + (nI 1))) b) dX2_weigh_43 rfl (by omega) (by decide) rfl ?_
  refine V.iconst (v := nI 1) (by decide) dX2_weigh_44 ?_
  refine V.iadd dX2_weigh_45 ?_
  refine V.sta (g := upd (upd (A 17) a ((A 17 a) + (nI 1))) b (((upd (A 17) a ((A 17 a) + (nI 1))) b) + (nI 1))) dX2_weigh_46 rfl (by omega) (by decide) rfl ?_
  refine V.hpe (A' := (upA A 17 (upd (upd (A 17) a ((A 17 a) + (nI 1))) b (((upd (A 17) a ((A 17 a) + (nI 1))) b) + (nI 1))))) rfl upA_u ?_
  refine V.iincN (ls' := [(0, .ref 15), (1, .ref 4), (2, .int (nI s)), (3, .int (nI 3)), (4, .int (nI 2))]) dX2_weigh_47 (j := 4) rfl (by decide) rfl ?_
  refine V.goto (tgt := 14) dX2_weigh_50 (by decide) ?_
  refine V.iload (j := 4) rfl dX2_weigh_14 ?_
  refine V.iconst (v := nI 3) (by decide) dX2_weigh_16 ?_
  refine V.icmp_ge (tgt := 53) dX2_weigh_17 (by decide) (fun z => absurd z (by decide)) (fun _ => ?_)
  refine V.iload_n (j := 3) rfl dX2_weigh_20 ?_
  refine V.iload (j := 4) rfl dX2_weigh_21 ?_
  refine V.cSN (As := [.int (nI 3), .int (nI 2)]) (st := []) dX2_weigh_23 sX2_70 zX7_has (cd_has I (upA A 17 (upd (upd (A 17) a ((A 17 a) + (nI 1))) b (((upd (A 17) a ((A 17 a) + (nI 1))) b) + (nI 1)))) _ 2 (by omega)) ⟨by decide, by decide⟩ (Nat.le_of_ble_eq_true rfl) rfl (fun r I' A' hq => ?_)
  obtain ⟨rfl, rfl, rfl⟩ := hq
  refine V.st (st' := [.int (nI 0)]) (by rw [bI_f (by decide)]; rfl) ?_
  refine V.if_eq (tgt := 47) dX2_weigh_26 (by decide) (fun _ => ?_) (fun z => absurd z (by decide))
  refine V.iincN (ls' := [(0, .ref 15), (1, .ref 4), (2, .int (nI s)), (3, .int (nI 3)), (4, .int (nI 3))]) dX2_weigh_47 (j := 4) rfl (by decide) rfl ?_
  refine V.goto (tgt := 14) dX2_weigh_50 (by decide) ?_
  refine V.iload (j := 4) rfl dX2_weigh_14 ?_
  refine V.iconst (v := nI 3) (by decide) dX2_weigh_16 ?_
  refine V.icmp_ge (tgt := 53) dX2_weigh_17 (by decide) (fun _ => ?_) (fun z => absurd z (by decide))
  refine V.rv dX2_weigh_53 rfl ?_
  exact ⟨rfl, rfl, by rw [mz_inc_n (show a < 2 ^ 31 by omega), mz_inc_n (show b < 2 ^ 31 by omega)]⟩
set_option maxRecDepth 100000 in
set_option maxHeartbeats 4000000 in
theorem cd_weigh7 {G : am_G} (I A : Nat → Nat → Int32) (hst : am_sta G) (s : Nat) (hs : s < 60) (k : Nat) (hk10 : k ≤ 10) (hk : A 5 s = nI k) (hm : cz_nm k = nI 7) (a : Nat) (ha : a < 24) (ea : A 6 s = nI a) (b : Nat) (hb : b < 24) (eb : A 7 s = nI b) (c : Nat) (hc : c < 24) (ec : A 8 s = nI c) : Cm G MX2_weigh 1 22 [.ref 15, .ref 4, .int (nI s)] I A (fun r I' A' => r = none ∧ I = I' ∧ upA A 17 (mz_inc (mz_inc (mz_inc (A 17) (nI a)) (nI b)) (nI c)) = A') := by
  refine Cm.of (by decide) (Nat.le_of_ble_eq_true rfl) rfl ?_
  show V G MX2_weigh (am_R 1 22 0 0) _ 0 0 0 [(0, .ref 15), (1, .ref 4), (2, .int (nI s))] [] (hp I A)
  refine V.getsN (a := 0) dX2_weigh_0 (by decide) gX2_64 ?_
  refine V.aload_n (j := 1) rfl dX2_weigh_3 ?_
  refine V.getr (q := 5) dX2_weigh_4 fX2_67 rfl rfl ?_
  refine V.iload_n (j := 2) rfl dX2_weigh_7 ?_
  refine V.lda (v := nI k) dX2_weigh_8 rfl (by omega) (by decide) hk ?_
  refine V.ildL (v := nI 7) dX2_weigh_9 (by decide) (by rw [hst.1]; exact vp_in_nI (by omega) (by decide)) (by rw [nI_clamp (by omega), hst.2.2.1 k (by omega)]; exact hm) ?_
  refine V.istore_n (ls' := [(0, .ref 15), (1, .ref 4), (2, .int (nI s)), (3, .int (nI 7))]) dX2_weigh_10 (by decide) rfl ?_
  refine V.iconst (v := nI 0) (by decide) dX2_weigh_11 ?_
  refine V.istore (ls' := [(0, .ref 15), (1, .ref 4), (2, .int (nI s)), (3, .int (nI 7)), (4, .int (nI 0))]) dX2_weigh_12 (by decide) rfl ?_
  refine V.iload (j := 4) rfl dX2_weigh_14 ?_
  refine V.iconst (v := nI 3) (by decide) dX2_weigh_16 ?_
  refine V.icmp_ge (tgt := 53) dX2_weigh_17 (by decide) (fun z => absurd z (by decide)) (fun _ => ?_)
  refine V.iload_n (j := 3) rfl dX2_weigh_20 ?_
  refine V.iload (j := 4) rfl dX2_weigh_21 ?_
  refine V.cSN (As := [.int (nI 7), .int (nI 0)]) (st := []) dX2_weigh_23 sX2_70 zX7_has (cd_has I A _ 0 (by omega)) ⟨by decide, by decide⟩ (Nat.le_of_ble_eq_true rfl) rfl (fun r I' A' hq => ?_)
  obtain ⟨rfl, rfl, rfl⟩ := hq
  refine V.st (st' := [.int (nI 1)]) (by rw [bI_t (by decide)]; rfl) ?_
  refine V.if_eq (tgt := 47) dX2_weigh_26 (by decide) (fun z => absurd z (by decide)) (fun _ => ?_)
  refine V.aload_n (j := 0) rfl dX2_weigh_29 ?_
  refine V.getr (q := 17) dX2_weigh_30 fX2_15 rfl rfl ?_
  refine V.aload_n (j := 1) rfl dX2_weigh_33 ?_
  refine V.iload_n (j := 2) rfl dX2_weigh_34 ?_
  refine V.iload (j := 4) rfl dX2_weigh_35 ?_
  refine V.iconst (v := nI 1) (by decide) dX2_weigh_37 ?_
  refine V.iaddN dX2_weigh_38 ?_
  refine V.st (st' := [.int (nI 1), .int (nI s), .ref 4, .ref 17]) rfl ?_
  refine V.cV (As := [.int (nI s), .int (nI 1)]) (st := [.ref 17]) dX2_weigh_39 sX2_74 iX3_part lX3_part rfl rfl (cd_part4 I A s hs _) ⟨by decide, by decide⟩ (Nat.le_of_ble_eq_true rfl) rfl (fun r I' A' hq => ?_)
  obtain ⟨rfl, rfl, rfl⟩ := hq
  refine V.st (st' := [.int (nI a), .ref 17]) (congrArg (fun x => Value.int x :: [.ref 17]) (show A 6 s = nI a from ea)) ?_
  refine V.dup2 rfl rfl dX2_weigh_42 ?_
  refine V.lda (v := A 17 a) dX2_weigh_43 rfl (by omega) (by decide) rfl ?_
  refine V.iconst (v := nI 1) (by decide) dX2_weigh_44 ?_
  refine V.iadd dX2_weigh_45 ?_
  refine V.sta (g := upd (A 17) a ((A 17 a) + (nI 1))) dX2_weigh_46 rfl (by omega) (by decide) rfl ?_
  refine V.iincN (ls' := [(0, .ref 15), (1, .ref 4), (2, .int (nI s)), (3, .int (nI 7)), (4, .int (nI 1))]) dX2_weigh_47 (j := 4) rfl (by decide) rfl ?_
  refine V.goto (tgt := 14) dX2_weigh_50 (by decide) ?_
  refine V.iload (j := 4) rfl dX2_weigh_14 ?_
  refine V.iconst (v := nI 3) (by decide) dX2_weigh_16 ?_
  refine V.icmp_ge (tgt := 53) dX2_weigh_17 (by decide) (fun z => absurd z (by decide)) (fun _ => ?_)
  refine V.iload_n (j := 3) rfl dX2_weigh_20 ?_
  refine V.iload (j := 4) rfl dX2_weigh_21 ?_
  refine V.cSN (As := [.int (nI 7), .int (nI 1)]) (st := []) dX2_weigh_23 sX2_70 zX7_has (cd_has I (upA A 17 (upd (A 17) a ((A 17 a) + (nI 1)))) _ 1 (by omega)) ⟨by decide, by decide⟩ (Nat.le_of_ble_eq_true rfl) rfl (fun r I' A' hq => ?_)
  obtain ⟨rfl, rfl, rfl⟩ := hq
  refine V.st (st' := [.int (nI 1)]) (by rw [bI_t (by decide)]; rfl) ?_
  refine V.if_eq (tgt := 47) dX2_weigh_26 (by decide) (fun z => absurd z (by decide)) (fun _ => ?_)
  refine V.aload_n (j := 0) rfl dX2_weigh_29 ?_
  refine V.getr (q := 17) dX2_weigh_30 fX2_15 rfl rfl ?_
  refine V.aload_n (j := 1) rfl dX2_weigh_33 ?_
  refine V.iload_n (j := 2) rfl dX2_weigh_34 ?_
  refine V.iload (j := 4) rfl dX2_weigh_35 ?_
  refine V.iconst (v := nI 1) (by decide) dX2_weigh_37 ?_
  refine V.iaddN dX2_weigh_38 ?_
  refine V.st (st' := [.int (nI 2), .int (nI s), .ref 4, .ref 17]) rfl ?_
  refine V.cV (As := [.int (nI s), .int (nI 2)]) (st := [.ref 17]) dX2_weigh_39 sX2_74 iX3_part lX3_part rfl rfl (cd_part4 I (upA A 17 (upd (A 17) a ((A 17 a) + (nI 1)))) s hs _) ⟨by decide, by decide⟩ (Nat.le_of_ble_eq_true rfl) rfl (fun r I' A' hq => ?_)
  obtain ⟨rfl, rfl, rfl⟩ := hq
  refine V.st (st' := [.int (nI b), .ref 17]) (congrArg (fun x => Value.int x :: [.ref 17]) (show A 7 s = nI b from eb)) ?_
  refine V.dup2 rfl rfl dX2_weigh_42 ?_
  refine V.lda (v := (upd (A 17) a ((A 17 a) + (nI 1))) b) dX2_weigh_43 rfl (by omega) (by decide) rfl ?_
  refine V.iconst (v := nI 1) (by decide) dX2_weigh_44 ?_
  refine V.iadd dX2_weigh_45 ?_
  refine V.sta (g := upd (upd (A 17) a ((A 17 a) + (nI 1))) b (((upd (A 17) a ((A 17 a) + (nI 1))) b) + (nI 1))) dX2_weigh_46 rfl (by omega) (by decide) rfl ?_
  refine V.hpe (A' := (upA A 17 (upd (upd (A 17) a ((A 17 a) + (nI 1))) b (((upd (A 17) a ((A 17 a) + (nI 1))) b) + (nI 1))))) rfl upA_u ?_
  refine V.iincN (ls' := [(0, .ref 15), (1, .ref 4), (2, .int (nI s)), (3, .int (nI 7)), (4, .int (nI 2))]) dX2_weigh_47 (j := 4) rfl (by decide) rfl ?_
  refine V.goto (tgt := 14) dX2_weigh_50 (by decide) ?_
  refine V.iload (j := 4) rfl dX2_weigh_14 ?_
  refine V.iconst (v := nI 3) (by decide) dX2_weigh_16 ?_
  refine V.icmp_ge (tgt := 53) dX2_weigh_17 (by decide) (fun z => absurd z (by decide)) (fun _ => ?_)
  refine V.iload_n (j := 3) rfl dX2_weigh_20 ?_
  refine V.iload (j := 4) rfl dX2_weigh_21 ?_
  refine V.cSN (As := [.int (nI 7), .int (nI 2)]) (st := []) dX2_weigh_23 sX2_70 zX7_has (cd_has I (upA A 17 (upd (upd (A 17) a ((A 17 a) + (nI 1))) b (((upd (A 17) a ((A 17 a) + (nI 1))) b) + (nI 1)))) _ 2 (by omega)) ⟨by decide, by decide⟩ (Nat.le_of_ble_eq_true rfl) rfl (fun r I' A' hq => ?_)
  obtain ⟨rfl, rfl, rfl⟩ := hq
  refine V.st (st' := [.int (nI 1)]) (by rw [bI_t (by decide)]; rfl) ?_
  refine V.if_eq (tgt := 47) dX2_weigh_26 (by decide) (fun z => absurd z (by decide)) (fun _ => ?_)
  refine V.aload_n (j := 0) rfl dX2_weigh_29 ?_
  refine V.getr (q := 17) dX2_weigh_30 fX2_15 rfl rfl ?_
  refine V.aload_n (j := 1) rfl dX2_weigh_33 ?_
  refine V.iload_n (j := 2) rfl dX2_weigh_34 ?_
  refine V.iload (j := 4) rfl dX2_weigh_35 ?_
  refine V.iconst (v := nI 1) (by decide) dX2_weigh_37 ?_
  refine V.iaddN dX2_weigh_38 ?_
  refine V.st (st' := [.int (nI 3), .int (nI s), .ref 4, .ref 17]) rfl ?_
  refine V.cV (As := [.int (nI s), .int (nI 3)]) (st := [.ref 17]) dX2_weigh_39 sX2_74 iX3_part lX3_part rfl rfl (cd_part4 I (upA A 17 (upd (upd (A 17) a ((A 17 a) + (nI 1))) b (((upd (A 17) a ((A 17 a) + (nI 1))) b) + (nI 1)))) s hs _) ⟨by decide, by decide⟩ (Nat.le_of_ble_eq_true rfl) rfl (fun r I' A' hq => ?_)
  obtain ⟨rfl, rfl, rfl⟩ := hq
  refine V.st (st' := [.int (nI c), .ref 17]) (congrArg (fun x => Value.int x :: [.ref 17]) (show A 8 s = nI c from ec)) ?_
  refine V.dup2 rfl rfl dX2_weigh_42 ?_
  refine V.lda (v := (upd (upd (A 17) a ((A 17 a) + (nI 1))) b (((upd (A 17) a ((A 17 a) + (nI 1))) b) + (nI 1))) c) dX2_weigh_43 rfl (by omega) (by decide) rfl ?_
  refine V.iconst (v := nI 1) (by decide) dX2_weigh_44 ?_
  refine V.iadd dX2_weigh_45 ?_
  refine V.sta (g := upd (upd (upd (A 17) a ((A 17 a) + (nI 1))) b (((upd (A 17) a ((A 17 a) + (nI 1))) b) + (nI 1))) c (((upd (upd (A 17) a ((A 17 a) + (nI 1))) b (((upd (A 17) a ((A 17 a) + (nI 1))) b) + (nI 1))) c) + (nI 1))) dX2_weigh_46 rfl (by omega) (by decide) rfl ?_
  refine V.hpe (A' := (upA A 17 (upd (upd (upd (A 17) a ((A 17 a) + (nI 1))) b (((upd (A 17) a ((A 17 a) + (nI 1))) b) + (nI 1))) c (((upd (upd (A 17) a ((A 17 a) + (nI 1))) b (((upd (A 17) a ((A 17 a) + (nI 1))) b) + (nI 1))) c) + (nI 1))))) rfl upA_u ?_
  refine V.iincN (ls' := [(0, .ref 15), (1, .ref 4), (2, .int (nI s)), (3, .int (nI 7)), (4, .int (nI 3))]) dX2_weigh_47 (j := 4) rfl (by decide) rfl ?_
  refine V.goto (tgt := 14) dX2_weigh_50 (by decide) ?_
  refine V.iload (j := 4) rfl dX2_weigh_14 ?_
  refine V.iconst (v := nI 3) (by decide) dX2_weigh_16 ?_
  refine V.icmp_ge (tgt := 53) dX2_weigh_17 (by decide) (fun _ => ?_) (fun z => absurd z (by decide))
  refine V.rv dX2_weigh_53 rfl ?_
  exact ⟨rfl, rfl, by rw [mz_inc_n (show a < 2 ^ 31 by omega), mz_inc_n (show b < 2 ^ 31 by omega), mz_inc_n (show c < 2 ^ 31 by omega)]⟩
set_option maxRecDepth 100000 in
theorem cd_weigh {G : am_G} (I A : Nat → Nat → Int32) (hst : am_sta G) (nv : Nat) (hnv : nv ≤ 24) (s : Nat) (hs : s < 60) (hsw : mz_sw nv (A 5 s) (A 6 s) (A 7 s) (A 8 s)) : Cm G MX2_weigh 1 22 [.ref 15, .ref 4, .int (nI s)] I A (fun r I' A' => r = none ∧ I = I' ∧ upA A 17 (mz_mG (A 5) (A 6) (A 7) (A 8) s (A 17)) = A') := by
  obtain ⟨k, hk10, ek, h3, h4, h5, -⟩ := hsw
  rcases (show k = 0 ∨ k = 1 ∨ k = 2 ∨ k = 3 ∨ k = 4 ∨ k = 5 ∨ k = 6 ∨ k = 7 ∨ k = 8 ∨ k = 9 ∨ k = 10 by omega) with rfl | rfl | rfl | rfl | rfl | rfl | rfl | rfl | rfl | rfl | rfl
  · obtain ⟨a, ha, ea⟩ := h3 (by omega)
    have e1 : mz_anew (A 5) (A 6) s = nI a := by unfold mz_anew; rw [ek, ← ea]; rfl
    have e2 : mz_tak0 (A 5) (A 6) (A 7) s = (-1) := by unfold mz_tak0; rw [ek]; rfl
    have e3 : mz_tak1 (A 5) (A 7) (A 8) s = (-1) := by unfold mz_tak1; rw [ek]; rfl
    have e4 : mz_mG (A 5) (A 6) (A 7) (A 8) s (A 17) = mz_inc (A 17) (nI a) := by unfold mz_mG; rw [e1, e2, e3]; simp only [mz_inc_m]
    rw [e4]
    exact cd_weigh1 I A hst s hs 0 (by omega) ek rfl a (by omega) ea
  · obtain ⟨a, ha, ea⟩ := h3 (by omega)
    obtain ⟨b, hb, eb⟩ := h4 (by omega)
    have e1 : mz_anew (A 5) (A 6) s = nI a := by unfold mz_anew; rw [ek, ← ea]; rfl
    have e2 : mz_tak0 (A 5) (A 6) (A 7) s = nI b := by unfold mz_tak0; rw [ek, ← eb]; rfl
    have e3 : mz_tak1 (A 5) (A 7) (A 8) s = (-1) := by unfold mz_tak1; rw [ek]; rfl
    have e4 : mz_mG (A 5) (A 6) (A 7) (A 8) s (A 17) = mz_inc (mz_inc (A 17) (nI a)) (nI b) := by unfold mz_mG; rw [e1, e2, e3]; simp only [mz_inc_m]
    rw [e4]
    exact cd_weigh3 I A hst s hs 1 (by omega) ek rfl a (by omega) ea b (by omega) eb
  · obtain ⟨a, ha, ea⟩ := h3 (by omega)
    obtain ⟨b, hb, eb⟩ := h4 (by omega)
    obtain ⟨c, hc, ec⟩ := h5 (by omega)
    have e1 : mz_anew (A 5) (A 6) s = nI a := by unfold mz_anew; rw [ek, ← ea]; rfl
    have e2 : mz_tak0 (A 5) (A 6) (A 7) s = nI b := by unfold mz_tak0; rw [ek, ← eb]; rfl
    have e3 : mz_tak1 (A 5) (A 7) (A 8) s = nI c := by unfold mz_tak1; rw [ek, ← ec]; rfl
    have e4 : mz_mG (A 5) (A 6) (A 7) (A 8) s (A 17) = mz_inc (mz_inc (mz_inc (A 17) (nI a)) (nI b)) (nI c) := by unfold mz_mG; rw [e1, e2, e3]
    rw [e4]
    exact cd_weigh7 I A hst s hs 2 (by omega) ek rfl a (by omega) ea b (by omega) eb c (by omega) ec
  · obtain ⟨a, ha, ea⟩ := h3 (by omega)
    obtain ⟨b, hb, eb⟩ := h4 (by omega)
    obtain ⟨c, hc, ec⟩ := h5 (by omega)
    have e1 : mz_anew (A 5) (A 6) s = nI a := by unfold mz_anew; rw [ek, ← ea]; rfl
    have e2 : mz_tak0 (A 5) (A 6) (A 7) s = nI b := by unfold mz_tak0; rw [ek, ← eb]; rfl
    have e3 : mz_tak1 (A 5) (A 7) (A 8) s = nI c := by unfold mz_tak1; rw [ek, ← ec]; rfl
    have e4 : mz_mG (A 5) (A 6) (A 7) (A 8) s (A 17) = mz_inc (mz_inc (mz_inc (A 17) (nI a)) (nI b)) (nI c) := by unfold mz_mG; rw [e1, e2, e3]
    rw [e4]
    exact cd_weigh7 I A hst s hs 3 (by omega) ek rfl a (by omega) ea b (by omega) eb c (by omega) ec
  · obtain ⟨a, ha, ea⟩ := h3 (by omega)
    obtain ⟨b, hb, eb⟩ := h4 (by omega)
    obtain ⟨c, hc, ec⟩ := h5 (by omega)
    have e1 : mz_anew (A 5) (A 6) s = nI a := by unfold mz_anew; rw [ek, ← ea]; rfl
    have e2 : mz_tak0 (A 5) (A 6) (A 7) s = nI b := by unfold mz_tak0; rw [ek, ← eb]; rfl
    have e3 : mz_tak1 (A 5) (A 7) (A 8) s = nI c := by unfold mz_tak1; rw [ek, ← ec]; rfl
    have e4 : mz_mG (A 5) (A 6) (A 7) (A 8) s (A 17) = mz_inc (mz_inc (mz_inc (A 17) (nI a)) (nI b)) (nI c) := by unfold mz_mG; rw [e1, e2, e3]
    rw [e4]
    exact cd_weigh7 I A hst s hs 4 (by omega) ek rfl a (by omega) ea b (by omega) eb c (by omega) ec
  · obtain ⟨a, ha, ea⟩ := h3 (by omega)
    obtain ⟨b, hb, eb⟩ := h4 (by omega)
    have e1 : mz_anew (A 5) (A 6) s = nI a := by unfold mz_anew; rw [ek, ← ea]; rfl
    have e2 : mz_tak0 (A 5) (A 6) (A 7) s = nI b := by unfold mz_tak0; rw [ek, ← eb]; rfl
    have e3 : mz_tak1 (A 5) (A 7) (A 8) s = (-1) := by unfold mz_tak1; rw [ek]; rfl
    have e4 : mz_mG (A 5) (A 6) (A 7) (A 8) s (A 17) = mz_inc (mz_inc (A 17) (nI a)) (nI b) := by unfold mz_mG; rw [e1, e2, e3]; simp only [mz_inc_m]
    rw [e4]
    exact cd_weigh3 I A hst s hs 5 (by omega) ek rfl a (by omega) ea b (by omega) eb
  · obtain ⟨a, ha, ea⟩ := h3 (by omega)
    obtain ⟨b, hb, eb⟩ := h4 (by omega)
    have e1 : mz_anew (A 5) (A 6) s = (-1) := by unfold mz_anew; rw [ek]; rfl
    have e2 : mz_tak0 (A 5) (A 6) (A 7) s = nI a := by unfold mz_tak0; rw [ek, ← ea]; rfl
    have e3 : mz_tak1 (A 5) (A 7) (A 8) s = nI b := by unfold mz_tak1; rw [ek, ← eb]; rfl
    have e4 : mz_mG (A 5) (A 6) (A 7) (A 8) s (A 17) = mz_inc (mz_inc (A 17) (nI a)) (nI b) := by unfold mz_mG; rw [e1, e2, e3]; simp only [mz_inc_m]
    rw [e4]
    exact cd_weigh3 I A hst s hs 6 (by omega) ek rfl a (by omega) ea b (by omega) eb
  · obtain ⟨a, ha, ea⟩ := h3 (by omega)
    obtain ⟨b, hb, eb⟩ := h4 (by omega)
    have e1 : mz_anew (A 5) (A 6) s = (-1) := by unfold mz_anew; rw [ek]; rfl
    have e2 : mz_tak0 (A 5) (A 6) (A 7) s = nI a := by unfold mz_tak0; rw [ek, ← ea]; rfl
    have e3 : mz_tak1 (A 5) (A 7) (A 8) s = nI b := by unfold mz_tak1; rw [ek, ← eb]; rfl
    have e4 : mz_mG (A 5) (A 6) (A 7) (A 8) s (A 17) = mz_inc (mz_inc (A 17) (nI a)) (nI b) := by unfold mz_mG; rw [e1, e2, e3]; simp only [mz_inc_m]
    rw [e4]
    exact cd_weigh3 I A hst s hs 7 (by omega) ek rfl a (by omega) ea b (by omega) eb
  · have e1 : mz_anew (A 5) (A 6) s = (-1) := by unfold mz_anew; rw [ek]; rfl
    have e2 : mz_tak0 (A 5) (A 6) (A 7) s = (-1) := by unfold mz_tak0; rw [ek]; rfl
    have e3 : mz_tak1 (A 5) (A 7) (A 8) s = (-1) := by unfold mz_tak1; rw [ek]; rfl
    have e4 : mz_mG (A 5) (A 6) (A 7) (A 8) s (A 17) = A 17 := by unfold mz_mG; rw [e1, e2, e3]; simp only [mz_inc_m]
    rw [e4]
    exact cd_weigh0 I A hst s hs 8 (by omega) ek rfl 
  · obtain ⟨a, ha, ea⟩ := h3 (by omega)
    have e1 : mz_anew (A 5) (A 6) s = (-1) := by unfold mz_anew; rw [ek]; rfl
    have e2 : mz_tak0 (A 5) (A 6) (A 7) s = nI a := by unfold mz_tak0; rw [ek, ← ea]; rfl
    have e3 : mz_tak1 (A 5) (A 7) (A 8) s = (-1) := by unfold mz_tak1; rw [ek]; rfl
    have e4 : mz_mG (A 5) (A 6) (A 7) (A 8) s (A 17) = mz_inc (A 17) (nI a) := by unfold mz_mG; rw [e1, e2, e3]; simp only [mz_inc_m]
    rw [e4]
    exact cd_weigh1 I A hst s hs 9 (by omega) ek rfl a (by omega) ea
  · have e1 : mz_anew (A 5) (A 6) s = (-1) := by unfold mz_anew; rw [ek]; rfl
    have e2 : mz_tak0 (A 5) (A 6) (A 7) s = (-1) := by unfold mz_tak0; rw [ek]; rfl
    have e3 : mz_tak1 (A 5) (A 7) (A 8) s = (-1) := by unfold mz_tak1; rw [ek]; rfl
    have e4 : mz_mG (A 5) (A 6) (A 7) (A 8) s (A 17) = A 17 := by unfold mz_mG; rw [e1, e2, e3]; simp only [mz_inc_m]
    rw [e4]
    exact cd_weigh0 I A hst s hs 10 (by omega) ek rfl 
/-- what step s joins -/
def cz_j1 (op fa fb cl : Nat → Int32) (s : Nat) (j : Nat → Int32) : Nat → Int32 := if op s = nI 1 ∧ cl (fa s).toNatClampNeg = cl (fb s).toNatClampNeg then upd (upd j (fa s).toNatClampNeg (j (fa s).toNatClampNeg ||| nI 1 <<< (fb s &&& 31))) (fb s).toNatClampNeg ((upd j (fa s).toNatClampNeg (j (fa s).toNatClampNeg ||| nI 1 <<< (fb s &&& 31))) (fb s).toNatClampNeg ||| nI 1 <<< (fa s &&& 31)) else j
def cz_jj (op fa fb cl : Nat → Int32) : Nat → Nat → (Nat → Int32) → Nat → Int32
  | 0, _, j => j
  | m + 1, s, j => cz_jj op fa fb cl m (s + 1) (cz_j1 op fa fb cl s j)
set_option maxRecDepth 100000 in
set_option maxHeartbeats 4000000 in
theorem cd_join1 {G : am_G} (I A : Nat → Nat → Int32) (s : Nat) (hs : s < 60) (ho : A 5 s = nI 1) (a b : Nat) (ha : a < 24) (hb : b < 24) (ea : A 6 s = nI a) (eb : A 7 s = nI b) : Cm G MX2_join 1 20 [.ref 15, .ref 1, .int (nI s)] I A (fun r I' A' => r = none ∧ I = I' ∧ upA A 19 (cz_j1 (A 5) (A 6) (A 7) (A 2) s (A 19)) = A') := by
  refine Cm.of (by decide) (Nat.le_of_ble_eq_true rfl) rfl ?_
  show V G MX2_join (am_R 1 20 0 0) _ 0 0 0 [(0, .ref 15), (1, .ref 1), (2, .int (nI s))] [] (hp I A)
  refine V.aload_n (j := 1) rfl dX2_join_0 ?_
  refine V.getr (q := 4) dX2_join_1 fX2_37 rfl rfl ?_
  refine V.getr (q := 6) dX2_join_4 fX2_78 rfl rfl ?_
  refine V.iload_n (j := 2) rfl dX2_join_7 ?_
  refine V.lda (v := nI a) dX2_join_8 rfl (by omega) (by decide) ea ?_
  refine V.istore_n (ls' := [(0, .ref 15), (1, .ref 1), (2, .int (nI s)), (3, .int (nI a))]) dX2_join_9 (by decide) rfl ?_
  refine V.aload_n (j := 1) rfl dX2_join_10 ?_
  refine V.getr (q := 4) dX2_join_11 fX2_37 rfl rfl ?_
  refine V.getr (q := 7) dX2_join_14 fX2_81 rfl rfl ?_
  refine V.iload_n (j := 2) rfl dX2_join_17 ?_
  refine V.lda (v := nI b) dX2_join_18 rfl (by omega) (by decide) eb ?_
  refine V.istore (ls' := [(0, .ref 15), (1, .ref 1), (2, .int (nI s)), (3, .int (nI a)), (4, .int (nI b))]) dX2_join_19 (by decide) rfl ?_
  refine V.aload_n (j := 1) rfl dX2_join_21 ?_
  refine V.getr (q := 4) dX2_join_22 fX2_37 rfl rfl ?_
  refine V.getr (q := 5) dX2_join_25 fX2_67 rfl rfl ?_
  refine V.iload_n (j := 2) rfl dX2_join_28 ?_
  refine V.lda (v := A 5 s) dX2_join_29 rfl (by omega) (by decide) rfl ?_
  refine V.iconst (v := nI 1) (by decide) dX2_join_30 ?_
  refine V.icmp_ne (tgt := 78) dX2_join_31 (by decide) (fun c1 => ?_) (fun c1 => ?_)
  · exact absurd ho c1
  · refine V.aload_n (j := 1) rfl dX2_join_34 ?_
    refine V.getr (q := 2) dX2_join_35 fX2_57 rfl rfl ?_
    refine V.iload_n (j := 3) rfl dX2_join_38 ?_
    refine V.lda (v := A 2 a) dX2_join_39 rfl (by omega) (by decide) rfl ?_
    refine V.aload_n (j := 1) rfl dX2_join_40 ?_
    refine V.getr (q := 2) dX2_join_41 fX2_57 rfl rfl ?_
    refine V.iload (j := 4) rfl dX2_join_44 ?_
    refine V.lda (v := A 2 b) dX2_join_46 rfl (by omega) (by decide) rfl ?_
    refine V.icmp_ne (tgt := 78) dX2_join_47 (by decide) (fun c2 => ?_) (fun c2 => ?_)
    · refine V.rv dX2_join_78 rfl ?_
      exact ⟨rfl, rfl, by unfold cz_j1; rw [ea, eb, nI_clamp (show a < 2 ^ 31 by omega), nI_clamp (show b < 2 ^ 31 by omega), if_neg (fun z => c2 z.2), upA_i]⟩
    · refine V.aload_n (j := 0) rfl dX2_join_50 ?_
      refine V.getr (q := 19) dX2_join_51 fX2_21 rfl rfl ?_
      refine V.iload_n (j := 3) rfl dX2_join_54 ?_
      refine V.dup2 rfl rfl dX2_join_55 ?_
      refine V.lda (v := A 19 a) dX2_join_56 rfl (by omega) (by decide) rfl ?_
      refine V.iload (j := 4) rfl dX2_join_57 ?_
      refine V.cSN (As := [.int (nI b)]) (st := [.int (A 19 a), .int (nI a), .ref 19]) dX2_join_59 sX2_84 zX7_bit (cd_bit I A _) ⟨by decide, by decide⟩ (Nat.le_of_ble_eq_true rfl) rfl (fun r I' A' hq => ?_)
      obtain ⟨rfl, rfl, rfl⟩ := hq
      refine V.st (st' := [.int (nI 1 <<< ((nI b) &&& 31)), .int (A 19 a), .int (nI a), .ref 19]) rfl ?_
      refine V.ior dX2_join_62 ?_
      refine V.sta (g := upd (A 19) a ((A 19 a) ||| (nI 1 <<< ((nI b) &&& 31)))) dX2_join_63 rfl (by omega) (by decide) rfl ?_
      refine V.aload_n (j := 0) rfl dX2_join_64 ?_
      refine V.getr (q := 19) dX2_join_65 fX2_21 rfl rfl ?_
      refine V.iload (j := 4) rfl dX2_join_68 ?_
      refine V.dup2 rfl rfl dX2_join_70 ?_
      refine V.lda (v := (upd (A 19) a ((A 19 a) ||| (nI 1 <<< ((nI b) &&& 31)))) b) dX2_join_71 rfl (by omega) (by decide) rfl ?_
      refine V.iload_n (j := 3) rfl dX2_join_72 ?_
      refine V.cSN (As := [.int (nI a)]) (st := [.int ((upd (A 19) a ((A 19 a) ||| (nI 1 <<< ((nI b) &&& 31)))) b), .int (nI b), .ref 19]) dX2_join_73 sX2_84 zX7_bit (cd_bit I (upA A 19 (upd (A 19) a ((A 19 a) ||| (nI 1 <<< ((nI b) &&& 31))))) _) ⟨by decide, by decide⟩ (Nat.le_of_ble_eq_true rfl) rfl (fun r I' A' hq => ?_)
      obtain ⟨rfl, rfl, rfl⟩ := hq
      refine V.st (st' := [.int (nI 1 <<< ((nI a) &&& 31)), .int ((upd (A 19) a ((A 19 a) ||| (nI 1 <<< ((nI b) &&& 31)))) b), .int (nI b), .ref 19]) rfl ?_
      refine V.ior dX2_join_76 ?_
      refine V.sta (g := upd (upd (A 19) a ((A 19 a) ||| (nI 1 <<< ((nI b) &&& 31)))) b (((upd (A 19) a ((A 19 a) ||| (nI 1 <<< ((nI b) &&& 31)))) b) ||| (nI 1 <<< ((nI a) &&& 31)))) dX2_join_77 rfl (by omega) (by decide) rfl ?_
      refine V.hpe (A' := (upA A 19 (upd (upd (A 19) a ((A 19 a) ||| (nI 1 <<< ((nI b) &&& 31)))) b (((upd (A 19) a ((A 19 a) ||| (nI 1 <<< ((nI b) &&& 31)))) b) ||| (nI 1 <<< ((nI a) &&& 31)))))) rfl upA_u ?_
      refine V.rv dX2_join_78 rfl ?_
      exact ⟨rfl, rfl, by unfold cz_j1; rw [ea, eb, nI_clamp (show a < 2 ^ 31 by omega), nI_clamp (show b < 2 ^ 31 by omega), if_pos ⟨ho, c2⟩]⟩
set_option maxRecDepth 100000 in
set_option maxHeartbeats 4000000 in
theorem cd_join0 {G : am_G} (I A : Nat → Nat → Int32) (s : Nat) (hs : s < 60) (ho : ¬ A 5 s = nI 1) : Cm G MX2_join 1 20 [.ref 15, .ref 1, .int (nI s)] I A (fun r I' A' => r = none ∧ I = I' ∧ upA A 19 (cz_j1 (A 5) (A 6) (A 7) (A 2) s (A 19)) = A') := by
  refine Cm.of (by decide) (Nat.le_of_ble_eq_true rfl) rfl ?_
  show V G MX2_join (am_R 1 20 0 0) _ 0 0 0 [(0, .ref 15), (1, .ref 1), (2, .int (nI s))] [] (hp I A)
  refine V.aload_n (j := 1) rfl dX2_join_0 ?_
  refine V.getr (q := 4) dX2_join_1 fX2_37 rfl rfl ?_
  refine V.getr (q := 6) dX2_join_4 fX2_78 rfl rfl ?_
  refine V.iload_n (j := 2) rfl dX2_join_7 ?_
  refine V.lda (v := A 6 s) dX2_join_8 rfl (by omega) (by decide) rfl ?_
  refine V.istore_n (ls' := [(0, .ref 15), (1, .ref 1), (2, .int (nI s)), (3, .int (A 6 s))]) dX2_join_9 (by decide) rfl ?_
  refine V.aload_n (j := 1) rfl dX2_join_10 ?_
  refine V.getr (q := 4) dX2_join_11 fX2_37 rfl rfl ?_
  refine V.getr (q := 7) dX2_join_14 fX2_81 rfl rfl ?_
  refine V.iload_n (j := 2) rfl dX2_join_17 ?_
  refine V.lda (v := A 7 s) dX2_join_18 rfl (by omega) (by decide) rfl ?_
  refine V.istore (ls' := [(0, .ref 15), (1, .ref 1), (2, .int (nI s)), (3, .int (A 6 s)), (4, .int (A 7 s))]) dX2_join_19 (by decide) rfl ?_
  refine V.aload_n (j := 1) rfl dX2_join_21 ?_
  refine V.getr (q := 4) dX2_join_22 fX2_37 rfl rfl ?_
  refine V.getr (q := 5) dX2_join_25 fX2_67 rfl rfl ?_
  refine V.iload_n (j := 2) rfl dX2_join_28 ?_
  refine V.lda (v := A 5 s) dX2_join_29 rfl (by omega) (by decide) rfl ?_
  refine V.iconst (v := nI 1) (by decide) dX2_join_30 ?_
  refine V.icmp_ne (tgt := 78) dX2_join_31 (by decide) (fun c1 => ?_) (fun c1 => ?_)
  · refine V.rv dX2_join_78 rfl ?_
    exact ⟨rfl, rfl, by unfold cz_j1; rw [if_neg (fun z => ho z.1), upA_i]⟩
  · exact absurd c1 ho
theorem cd_join {G : am_G} (I A : Nat → Nat → Int32) (nv : Nat) (hnv : nv ≤ 24) (s : Nat) (hs : s < 60) (hsw : mz_sw nv (A 5 s) (A 6 s) (A 7 s) (A 8 s)) : Cm G MX2_join 1 20 [.ref 15, .ref 1, .int (nI s)] I A (fun r I' A' => r = none ∧ I = I' ∧ upA A 19 (cz_j1 (A 5) (A 6) (A 7) (A 2) s (A 19)) = A') := by
  by_cases ho : A 5 s = nI 1
  · obtain ⟨k, hk10, ek, h3, h4, -⟩ := hsw
    have hk1 : k = 1 := (nI_eq (by omega) (by omega)).mp (ek.symm.trans ho)
    obtain ⟨a, ha, ea⟩ := h3 (by omega)
    obtain ⟨b, hb, eb⟩ := h4 (by omega)
    exact cd_join1 I A s hs ho a b (by omega) (by omega) ea eb
  · exact cd_join0 I A s hs ho
set_option maxRecDepth 100000 in
set_option maxHeartbeats 4000000 in
theorem cl_line1 {G : am_G} {Fn : Array Value → State → List Frame → State → Prop} (I A : Nat → Nat → Int32) (nv : Nat) (v : Nat) (hv : v < 24) : ∀ (k : Nat) (o : Nat → Int32), k ≤ v → mz_ok (v + 1) k v o → V G MX2_line (am_R 0 0 0 0) Fn 0 0 55 [(0, .ref 15), (1, .int (nI nv)), (2, .int (nI v)), (3, .int (nI (mz_ins (A 17) (A 17 v) k o).1))] [] (hp I (upA A 18 (mz_ins (A 17) (A 17 v) k o).2)) → V G MX2_line (am_R 0 0 0 0) Fn 0 0 9 [(0, .ref 15), (1, .int (nI nv)), (2, .int (nI v)), (3, .int (nI k))] [] (hp I (upA A 18 o)) := by
  intro k
  induction k with
  | zero =>
    intro o hi0 hi1 hk
    refine V.iload_n (j := 3) rfl dX2_line_9 ?_
    refine V.if_le (tgt := 55) dX2_line_10 (by decide) (fun _ => hk) (fun z => absurd (by decide) z)
  | succ k ih =>
    intro o hi0 hi1 hk
    refine V.iload_n (j := 3) rfl dX2_line_9 ?_
    refine V.if_leN (tgt := 55) dX2_line_10 (by decide) (by omega) (fun c1 => ?_) (fun c1 => ?_)
    · exact absurd c1 (by omega)
    · refine V.aload_n (j := 0) rfl dX2_line_13 ?_
      refine V.getr (q := 17) dX2_line_14 fX2_15 rfl rfl ?_
      refine V.aload_n (j := 0) rfl dX2_line_17 ?_
      refine V.getr (q := 18) dX2_line_18 fX2_18 rfl rfl ?_
      refine V.iload_n (j := 3) rfl dX2_line_21 ?_
      refine V.iconst (v := nI 1) (by decide) dX2_line_22 ?_
      refine V.isubN dX2_line_23 (by omega) ?_
      refine V.st (st' := [.int (nI k), .ref 18, .ref 17]) rfl ?_
      refine V.lda (v := o k) dX2_line_24 rfl (by omega) (by decide) rfl ?_
      obtain ⟨t, ht, et⟩ := hi1 k (by omega) (by omega)
      refine V.st (st' := [.int (nI t), .ref 17]) (by rw [et]) ?_
      refine V.lda (v := A 17 t) dX2_line_25 rfl (by omega) (by decide) rfl ?_
      refine V.aload_n (j := 0) rfl dX2_line_26 ?_
      refine V.getr (q := 17) dX2_line_27 fX2_15 rfl rfl ?_
      refine V.iload_n (j := 2) rfl dX2_line_30 ?_
      refine V.lda (v := A 17 v) dX2_line_31 rfl (by omega) (by decide) rfl ?_
      refine V.icmp_ge (tgt := 55) dX2_line_32 (by decide) (fun c2 => ?_) (fun c2 => ?_)
      · unfold mz_ins at hk
        rw [if_pos (by rw [et, nI_clamp (by omega)]; exact c2)] at hk
        exact hk
      · refine V.aload_n (j := 0) rfl dX2_line_35 ?_
        refine V.getr (q := 18) dX2_line_36 fX2_18 rfl rfl ?_
        refine V.iload_n (j := 3) rfl dX2_line_39 ?_
        refine V.aload_n (j := 0) rfl dX2_line_40 ?_
        refine V.getr (q := 18) dX2_line_41 fX2_18 rfl rfl ?_
        refine V.iload_n (j := 3) rfl dX2_line_44 ?_
        refine V.iconst (v := nI 1) (by decide) dX2_line_45 ?_
        refine V.isubN dX2_line_46 (by omega) ?_
        refine V.st (st' := [.int (nI k), .ref 18, .int (nI (k + 1)), .ref 18]) rfl ?_
        refine V.lda (v := o k) dX2_line_47 rfl (by omega) (by decide) rfl ?_
        refine V.sta (g := upd o (k + 1) (o k)) dX2_line_48 rfl (by omega) (by decide) rfl ?_
        refine V.hpe (A' := (upA A 18 (upd o (k + 1) (o k)))) rfl upA_u ?_
        refine V.ideclN (ls' := [(0, .ref 15), (1, .int (nI nv)), (2, .int (nI v)), (3, .int (nI k))]) dX2_line_49 (j := 3) rfl (by decide) rfl ?_
        refine V.goto (tgt := 9) dX2_line_52 (by decide) ?_
        unfold mz_ins at hk
        rw [if_neg (by rw [et, nI_clamp (by omega)]; exact c2)] at hk
        exact ih _ (by omega) (mz_ok_shift hi1 (by omega)) hk
set_option maxRecDepth 100000 in
set_option maxHeartbeats 4000000 in
theorem cl_line2 {G : am_G} {Fn : Array Value → State → List Frame → State → Prop} (I A : Nat → Nat → Int32) (nv : Nat) (hnv : nv ≤ 24) : ∀ (m : Nat) (v : Nat) (o : Nat → Int32), v + m = nv → mz_ok v v v o → (mz_ok nv nv nv (mz_sort (A 17) m v o) → V G MX2_line (am_R 0 0 0 0) Fn 0 0 68 [(0, .ref 15)] [] (hp I (upA A 18 (mz_sort (A 17) m v o)))) → V G MX2_line (am_R 0 0 0 0) Fn 0 0 2 [(0, .ref 15), (1, .int (nI nv)), (2, .int (nI v))] [] (hp I (upA A 18 (o))) := by
  intro m
  induction m with
  | zero =>
    intro v o hi0 hi1 hk
    obtain rfl : nv = v := by omega
    refine V.iload_n (j := 2) rfl dX2_line_2 ?_
    refine V.iload_n (j := 1) rfl dX2_line_3 ?_
    refine V.icmp_geN (tgt := 68) dX2_line_4 (by decide) (by omega) (by omega) (fun c1 => ?_) (fun c1 => ?_)
    · refine V.fewer [0] rfl ?_
      exact hk hi1
    · exact absurd c1 (by omega)
  | succ m ih =>
    intro v o hi0 hi1 hk
    refine V.iload_n (j := 2) rfl dX2_line_2 ?_
    refine V.iload_n (j := 1) rfl dX2_line_3 ?_
    refine V.icmp_geN (tgt := 68) dX2_line_4 (by decide) (by omega) (by omega) (fun c2 => ?_) (fun c2 => ?_)
    · exact absurd c2 (by omega)
    · refine V.iload_n (j := 2) rfl dX2_line_7 ?_
      refine V.istore_n (ls' := [(0, .ref 15), (1, .int (nI nv)), (2, .int (nI v)), (3, .int (nI v))]) dX2_line_8 (by decide) rfl ?_
      have hok : mz_ok (v + 1) v v o := fun j hj hne => hi1 j (by omega) (by omega)
      obtain ⟨hok2, hle⟩ := mz_ins_ok (A 17) (A 17 v) v o (by omega) hok
      refine cl_line1 I A nv v (by omega) v o (Nat.le_refl _) hok ?_
      refine V.aload_n (j := 0) rfl dX2_line_55 ?_
      refine V.getr (q := 18) dX2_line_56 fX2_18 rfl rfl ?_
      refine V.iload_n (j := 3) rfl dX2_line_59 ?_
      refine V.iload_n (j := 2) rfl dX2_line_60 ?_
      refine V.sta (g := upd ((mz_ins (A 17) (A 17 v) v o).2) ((mz_ins (A 17) (A 17 v) v o).1) (nI v)) dX2_line_61 rfl (by omega) (by decide) rfl ?_
      refine V.hpe (A' := (upA A 18 (upd ((mz_ins (A 17) (A 17 v) v o).2) ((mz_ins (A 17) (A 17 v) v o).1) (nI v)))) rfl upA_u ?_
      refine V.iincN (ls' := [(0, .ref 15), (1, .int (nI nv)), (2, .int (nI (v + 1))), (3, .int (nI ((mz_ins (A 17) (A 17 v) v o).1)))]) dX2_line_62 (j := 2) rfl (by decide) rfl ?_
      refine V.goto (tgt := 2) dX2_line_65 (by decide) ?_
      refine V.fewer [0, 1, 2] rfl ?_
      exact ih (v + 1) _ (by omega) (mz_ok_fill hok2 (by omega)) hk
set_option maxRecDepth 100000 in
set_option maxHeartbeats 4000000 in
theorem cd_line {G : am_G} (I A : Nat → Nat → Int32) (nv : Nat) (hnv : nv ≤ 24) : Cm G MX2_line 0 0 [.ref 15, .int (nI nv)] I A (fun r I' A' => r = none ∧ mz_ok nv nv nv (mz_sort (A 17) nv 0 (A 18)) ∧ I = I' ∧ upA A 18 (mz_sort (A 17) nv 0 (A 18)) = A') := by
  refine Cm.of (by decide) (Nat.le_of_ble_eq_true rfl) rfl ?_
  show V G MX2_line (am_R 0 0 0 0) _ 0 0 0 [(0, .ref 15), (1, .int (nI nv))] [] (hp I A)
  refine V.iconst (v := nI 0) (by decide) dX2_line_0 ?_
  refine V.istore_n (ls' := [(0, .ref 15), (1, .int (nI nv)), (2, .int (nI 0))]) dX2_line_1 (by decide) rfl ?_
  refine V.hpe (A' := (upA A 18 (A 18))) rfl (by rw [upA_i]) ?_
  refine cl_line2 I A nv hnv nv 0 _ (by omega) (fun j hj => absurd hj (Nat.not_lt_zero _)) (fun hok => ?_)
  refine V.rv dX2_line_68 rfl ?_
  exact ⟨rfl, hok, rfl, rfl⟩
