theorem upd_u {f : Nat → Int32} {k : Nat} {x y : Int32} : upd (upd f k x) k y = upd f k y := by
  funext j
  by_cases h : j = k <;> simp [upd, h]
theorem upd_i {f : Nat → Int32} {k : Nat} : upd f k (f k) = f := by
  funext j
  by_cases h : j = k
  · subst h; simp [upd]
  · simp [upd, h]
/-- an item is laid behind n others -/
def mz_lay (c : Nat → Int32) (n : Nat) (op x y z : Int32) : Nat → Int32 := upd (upd (upd (upd c (4 * n) op) (4 * n + 1) x) (4 * n + 2) y) (4 * n + 3) z
def mz_reg (c k : Int32) : Int32 := nI 16 * c + k
set_option maxRecDepth 100000 in
set_option maxHeartbeats 4000000 in
theorem md_lay0 {G : am_G} (I A : Nat → Nat → Int32) (n : Nat) (hi : A m_items 0 = nI n) (hn : n < 400) (o x y z : Int32) : Cm G MX8_lay 0 0 [.ref mM, .int o, .int x, .int y, .int z] I A (fun r I' A' => r = none ∧ I = I' ∧ upA (upA A m_code (mz_lay (A m_code) n o x y z)) m_items (upd (A m_items) 0 (nI (n + 1))) = A') := by
  refine Cm.of (by decide) (Nat.le_of_ble_eq_true rfl) rfl ?_
  show V G MX8_lay (am_R 0 0 0 0) _ 0 0 0 [(0, .ref mM), (1, .int o), (2, .int x), (3, .int y), (4, .int z)] [] (hp I A)
  refine V.iconst (v := nI 4) (by decide) dX8_lay_0 ?_
  refine V.aload_n (j := 0) rfl dX8_lay_1 ?_
  refine V.getr (q := m_items) dX8_lay_2 fX8_52 rfl rfl ?_
  refine V.iconst (v := nI 0) (by decide) dX8_lay_5 ?_
  refine V.lda (v := nI n) dX8_lay_6 rfl (by decide) (by decide) hi ?_
  refine V.imulN dX8_lay_7 ?_
  refine V.istore (ls' := [(0, .ref mM), (1, .int o), (2, .int x), (3, .int y), (4, .int z), (5, .int (nI (4 * n)))]) dX8_lay_8 (by decide) rfl ?_
  refine V.aload_n (j := 0) rfl dX8_lay_10 ?_
  refine V.getr (q := m_code) dX8_lay_11 fX8_49 rfl rfl ?_
  refine V.iload (j := 5) rfl dX8_lay_14 ?_
  refine V.iload_n (j := 1) rfl dX8_lay_16 ?_
  refine V.sta (g := upd (A m_code) (4 * n) (o)) dX8_lay_17 rfl (by omega) (by decide) rfl ?_
  refine V.aload_n (j := 0) rfl dX8_lay_18 ?_
  refine V.getr (q := m_code) dX8_lay_19 fX8_49 rfl rfl ?_
  refine V.iload (j := 5) rfl dX8_lay_22 ?_
  refine V.iconst (v := nI 1) (by decide) dX8_lay_24 ?_
  refine V.iaddN dX8_lay_25 ?_
  refine V.iload_n (j := 2) rfl dX8_lay_26 ?_
  refine V.sta (g := upd (upd (A m_code) (4 * n) (o)) ((4 * n) + 1) (x)) dX8_lay_27 rfl (by omega) (by decide) rfl ?_
  refine V.hpe (A' := (upA A m_code (upd (upd (A m_code) (4 * n) (o)) ((4 * n) + 1) (x)))) rfl upA_u ?_
  refine V.aload_n (j := 0) rfl dX8_lay_28 ?_
  refine V.getr (q := m_code) dX8_lay_29 fX8_49 rfl rfl ?_
  refine V.iload (j := 5) rfl dX8_lay_32 ?_
  refine V.iconst (v := nI 2) (by decide) dX8_lay_34 ?_
  refine V.iaddN dX8_lay_35 ?_
  refine V.iload_n (j := 3) rfl dX8_lay_36 ?_
  refine V.sta (g := upd (upd (upd (A m_code) (4 * n) (o)) ((4 * n) + 1) (x)) ((4 * n) + 2) (y)) dX8_lay_37 rfl (by omega) (by decide) rfl ?_
  refine V.hpe (A' := (upA A m_code (upd (upd (upd (A m_code) (4 * n) (o)) ((4 * n) + 1) (x)) ((4 * n) + 2) (y)))) rfl upA_u ?_
  refine V.aload_n (j := 0) rfl dX8_lay_38 ?_
  refine V.getr (q := m_code) dX8_lay_39 fX8_49 rfl rfl ?_
  refine V.iload (j := 5) rfl dX8_lay_42 ?_
  refine V.iconst (v := nI 3) (by decide) dX8_lay_44 ?_
  refine V.iaddN dX8_lay_45 ?_
  refine V.iload (j := 4) rfl dX8_lay_46 ?_
  refine V.sta (g := upd (upd (upd (upd (A m_code) (4 * n) (o)) ((4 * n) + 1) (x)) ((4 * n) + 2) (y)) ((4 * n) + 3) (z)) dX8_lay_48 rfl (by omega) (by decide) rfl ?_
  refine V.hpe (A' := (upA A m_code (upd (upd (upd (upd (A m_code) (4 * n) (o)) ((4 * n) + 1) (x)) ((4 * n) + 2) (y)) ((4 * n) + 3) (z)))) rfl upA_u ?_
  refine V.aload_n (j := 0) rfl dX8_lay_49 ?_
  refine V.getr (q := m_items) dX8_lay_50 fX8_52 rfl rfl ?_
  refine V.iconst (v := nI 0) (by decide) dX8_lay_53 ?_
  refine V.dup2 rfl rfl dX8_lay_54 ?_
  refine V.lda (v := nI n) dX8_lay_55 rfl (by decide) (by decide) hi ?_
  refine V.iconst (v := nI 1) (by decide) dX8_lay_56 ?_
  refine V.iaddN dX8_lay_57 ?_
  refine V.sta (g := upd (A m_items) 0 (nI (n + 1))) dX8_lay_58 rfl (by decide) (by decide) rfl ?_
  refine V.rv dX8_lay_59 rfl ?_
  exact ⟨rfl, rfl, rfl⟩
theorem md_lay {G : am_G} (I A : Nat → Nat → Int32) (g : Nat → Int32) (n : Nat) (hg : A m_items = upd g 0 (nI n)) (hn : n < 400) (o x y z : Int32) : Cm G MX8_lay 0 0 [.ref mM, .int o, .int x, .int y, .int z] I A (fun r I' A' => r = none ∧ I = I' ∧ upA (upA A m_code (mz_lay (A m_code) n o x y z)) m_items (upd g 0 (nI (n + 1))) = A') := by
  have h := md_lay0 (G := G) I A n (by rw [hg]; simp [upd]) hn o x y z
  rw [hg, upd_u] at h
  exact h
set_option maxRecDepth 100000 in
set_option maxHeartbeats 4000000 in
theorem md_reg {G : am_G} (I A : Nat → Nat → Int32) (c k : Int32) : Cm G MX8_register 0 0 [.int c, .int k] I A (fun r I' A' => r = some (.int (mz_reg c k)) ∧ I = I' ∧ A = A') := by
  refine Cm.of (by decide) (Nat.le_of_ble_eq_true rfl) rfl ?_
  show V G MX8_register (am_R 0 0 0 0) _ 0 0 0 [(0, .int c), (1, .int k)] [] (hp I A)
  refine V.bipush (v := nI 16) (by decide) dX8_register_0 ?_
  refine V.iload_n (j := 0) rfl dX8_register_2 ?_
  refine V.imul dX8_register_3 ?_
  refine V.iload_n (j := 1) rfl dX8_register_4 ?_
  refine V.iadd dX8_register_5 ?_
  refine V.ri dX8_register_6 rfl ?_
  exact ⟨rfl, rfl, rfl⟩
/-- the register where a value is made -/
def mz_to (cl hm : Nat → Int32) (v : Nat) : Int32 := mz_reg (cl v) (if hm v < nI 100 then hm v else nI 8)
set_option maxRecDepth 100000 in
set_option maxHeartbeats 4000000 in
theorem md_to {G : am_G} (I A : Nat → Nat → Int32) (v : Nat) (hv : v < 24) : Cm G MX8_to 1 21 [.ref mM, .int (nI v)] I A (fun r I' A' => r = some (.int (mz_to (A m_classes) (A m_homes) v)) ∧ I = I' ∧ A = A') := by
  refine Cm.of (by decide) (Nat.le_of_ble_eq_true rfl) rfl ?_
  show V G MX8_to (am_R 1 21 0 0) _ 0 0 0 [(0, .ref mM), (1, .int (nI v))] [] (hp I A)
  refine V.aload_n (j := 0) rfl dX8_to_0 ?_
  refine V.getr (q := m_classes) dX8_to_1 fX8_7 rfl rfl ?_
  refine V.iload_n (j := 1) rfl dX8_to_4 ?_
  refine V.lda (v := A m_classes v) dX8_to_5 rfl (by omega) (by decide) rfl ?_
  refine V.aload_n (j := 0) rfl dX8_to_6 ?_
  refine V.getr (q := m_homes) dX8_to_7 fX8_46 rfl rfl ?_
  refine V.iload_n (j := 1) rfl dX8_to_10 ?_
  refine V.lda (v := A m_homes v) dX8_to_11 rfl (by omega) (by decide) rfl ?_
  refine V.bipush (v := nI 100) (by decide) dX8_to_12 ?_
  have K1 : V G MX8_to (am_R 1 21 0 0) (am_Fin G 0 0 (Pm (fun r I' A' => r = some (.int (mz_to (A m_classes) (A m_homes) v)) ∧ I = I' ∧ A = A'))) 0 0 28 [(0, .ref mM), (1, .int (nI v))] [.int (if A m_homes v < nI 100 then A m_homes v else nI 8), .int (A m_classes v)] (hp I A) := by
    refine V.cS (As := [.int (A m_classes v), .int (if A m_homes v < nI 100 then A m_homes v else nI 8)]) (st := []) dX8_to_28 sX8_130 zX8_register (md_reg I A _ _) ⟨by decide, by decide⟩ (Nat.le_of_ble_eq_true rfl) rfl (fun r I' A' hq => ?_)
    obtain ⟨rfl, rfl, rfl⟩ := hq
    refine V.st (st' := [.int (mz_reg (A m_classes v) (if A m_homes v < nI 100 then A m_homes v else nI 8))]) rfl ?_
    refine V.ri dX8_to_31 rfl ?_
    exact ⟨rfl, rfl, rfl⟩
  refine V.icmp_lt (tgt := 22) dX8_to_14 (by decide) (fun c2 => ?_) (fun c2 => ?_)
  · refine V.aload_n (j := 0) rfl dX8_to_22 ?_
    refine V.getr (q := m_homes) dX8_to_23 fX8_46 rfl rfl ?_
    refine V.iload_n (j := 1) rfl dX8_to_26 ?_
    refine V.lda (v := A m_homes v) dX8_to_27 rfl (by omega) (by decide) rfl ?_
    exact V.st (by rw [if_pos c2]) K1
  · refine V.bipush (v := nI 8) (by decide) dX8_to_17 ?_
    refine V.goto (tgt := 28) dX8_to_19 (by decide) ?_
    exact V.st (by rw [if_neg c2]) K1
/-- the register where a value is taken from, when q have been fetched -/
def mz_from (cl hm fe it : Nat → Int32) (q v : Nat) : Int32 := match q with
  | 0 => mz_reg (cl v) (hm v)
  | 1 => if fe 0 = nI v then it 0 else mz_reg (cl v) (hm v)
  | _ => if fe 1 = nI v then it 1 else if fe 0 = nI v then it 0 else mz_reg (cl v) (hm v)
set_option maxRecDepth 100000 in
set_option maxHeartbeats 4000000 in
theorem md_from0 {G : am_G} (I A : Nat → Nat → Int32) (hq : I mM 25 = nI 0) (v : Nat) (hv : v < 24) : Cm G MX8_from 1 21 [.ref mM, .int (nI v)] I A (fun r I' A' => r = some (.int (mz_from (A m_classes) (A m_homes) (A m_fetches) (A m_into) 0 v)) ∧ I = I' ∧ A = A') := by
  refine Cm.of (by decide) (Nat.le_of_ble_eq_true rfl) rfl ?_
  show V G MX8_from (am_R 1 21 0 0) _ 0 0 0 [(0, .ref mM), (1, .int (nI v))] [] (hp I A)
  refine V.aload_n (j := 0) rfl dX8_from_0 ?_
  refine V.getr (q := m_classes) dX8_from_1 fX8_7 rfl rfl ?_
  refine V.iload_n (j := 1) rfl dX8_from_4 ?_
  refine V.lda (v := A m_classes v) dX8_from_5 rfl (by omega) (by decide) rfl ?_
  refine V.aload_n (j := 0) rfl dX8_from_6 ?_
  refine V.getr (q := m_homes) dX8_from_7 fX8_46 rfl rfl ?_
  refine V.iload_n (j := 1) rfl dX8_from_10 ?_
  refine V.lda (v := A m_homes v) dX8_from_11 rfl (by omega) (by decide) rfl ?_
  refine V.cS (As := [.int (A m_classes v), .int (A m_homes v)]) (st := []) dX8_from_12 sX8_130 zX8_register (md_reg I A _ _) ⟨by decide, by decide⟩ (Nat.le_of_ble_eq_true rfl) rfl (fun r I' A' hq => ?_)
  obtain ⟨rfl, rfl, rfl⟩ := hq
  refine V.st (st' := [.int (mz_reg (A m_classes v) (A m_homes v))]) rfl ?_
  refine V.istore_n (ls' := [(0, .ref mM), (1, .int (nI v)), (2, .int (mz_reg (A m_classes v) (A m_homes v)))]) dX8_from_15 (by decide) rfl ?_
  refine V.iconst (v := nI 0) (by decide) dX8_from_16 ?_
  refine V.istore_n (ls' := [(0, .ref mM), (1, .int (nI v)), (2, .int (mz_reg (A m_classes v) (A m_homes v))), (3, .int (nI 0))]) dX8_from_17 (by decide) rfl ?_
  refine V.iload_n (j := 3) rfl dX8_from_18 ?_
  refine V.aload_n (j := 0) rfl dX8_from_19 ?_
  refine V.geti (v := nI 0) dX8_from_20 fX8_127 rfl rfl hq ?_
  refine V.icmp_ge (tgt := 53) dX8_from_23 (by decide) (fun _ => ?_) (fun z => absurd z (by decide))
  refine V.iload_n (j := 2) rfl dX8_from_53 ?_
  refine V.ri dX8_from_54 rfl ?_
  exact ⟨rfl, rfl, rfl⟩
set_option maxRecDepth 100000 in
set_option maxHeartbeats 4000000 in
theorem md_from1 {G : am_G} (I A : Nat → Nat → Int32) (hq : I mM 25 = nI 1) (v : Nat) (hv : v < 24) : Cm G MX8_from 1 21 [.ref mM, .int (nI v)] I A (fun r I' A' => r = some (.int (mz_from (A m_classes) (A m_homes) (A m_fetches) (A m_into) 1 v)) ∧ I = I' ∧ A = A') := by
  refine Cm.of (by decide) (Nat.le_of_ble_eq_true rfl) rfl ?_
  show V G MX8_from (am_R 1 21 0 0) _ 0 0 0 [(0, .ref mM), (1, .int (nI v))] [] (hp I A)
  refine V.aload_n (j := 0) rfl dX8_from_0 ?_
  refine V.getr (q := m_classes) dX8_from_1 fX8_7 rfl rfl ?_
  refine V.iload_n (j := 1) rfl dX8_from_4 ?_
  refine V.lda (v := A m_classes v) dX8_from_5 rfl (by omega) (by decide) rfl ?_
  refine V.aload_n (j := 0) rfl dX8_from_6 ?_
  refine V.getr (q := m_homes) dX8_from_7 fX8_46 rfl rfl ?_
  refine V.iload_n (j := 1) rfl dX8_from_10 ?_
  refine V.lda (v := A m_homes v) dX8_from_11 rfl (by omega) (by decide) rfl ?_
  refine V.cS (As := [.int (A m_classes v), .int (A m_homes v)]) (st := []) dX8_from_12 sX8_130 zX8_register (md_reg I A _ _) ⟨by decide, by decide⟩ (Nat.le_of_ble_eq_true rfl) rfl (fun r I' A' hq => ?_)
  obtain ⟨rfl, rfl, rfl⟩ := hq
  refine V.st (st' := [.int (mz_reg (A m_classes v) (A m_homes v))]) rfl ?_
  refine V.istore_n (ls' := [(0, .ref mM), (1, .int (nI v)), (2, .int (mz_reg (A m_classes v) (A m_homes v)))]) dX8_from_15 (by decide) rfl ?_
  refine V.iconst (v := nI 0) (by decide) dX8_from_16 ?_
  refine V.istore_n (ls' := [(0, .ref mM), (1, .int (nI v)), (2, .int (mz_reg (A m_classes v) (A m_homes v))), (3, .int (nI 0))]) dX8_from_17 (by decide) rfl ?_
  refine V.iload_n (j := 3) rfl dX8_from_18 ?_
  refine V.aload_n (j := 0) rfl dX8_from_19 ?_
  refine V.geti (v := nI 1) dX8_from_20 fX8_127 rfl rfl hq ?_
  refine V.icmp_ge (tgt := 53) dX8_from_23 (by decide) (fun z => absurd z (by decide)) (fun _ => ?_)
  refine V.aload_n (j := 0) rfl dX8_from_26 ?_
  refine V.getr (q := m_fetches) dX8_from_27 fX8_73 rfl rfl ?_
  refine V.iload_n (j := 3) rfl dX8_from_30 ?_
  refine V.lda (v := A m_fetches 0) dX8_from_31 rfl (by decide) (by decide) rfl ?_
  refine V.iload_n (j := 1) rfl dX8_from_32 ?_
  have K2 : V G MX8_from (am_R 1 21 0 0) (am_Fin G 0 0 (Pm (fun r I' A' => r = some (.int (mz_from (A m_classes) (A m_homes) (A m_fetches) (A m_into) 1 v)) ∧ I = I' ∧ A = A'))) 0 0 46 [(0, .ref mM), (1, .int (nI v)), (2, .int (mz_reg (A m_classes v) (A m_homes v))), (3, .int (nI 0))] [.int (if A m_fetches 0 = nI v then A m_into 0 else mz_reg (A m_classes v) (A m_homes v))] (hp I A) := by
    refine V.istore_n (ls' := [(0, .ref mM), (1, .int (nI v)), (2, .int (if A m_fetches 0 = nI v then A m_into 0 else mz_reg (A m_classes v) (A m_homes v))), (3, .int (nI 0))]) dX8_from_46 (by decide) rfl ?_
    refine V.iincN (ls' := [(0, .ref mM), (1, .int (nI v)), (2, .int (if A m_fetches 0 = nI v then A m_into 0 else mz_reg (A m_classes v) (A m_homes v))), (3, .int (nI 1))]) dX8_from_47 (j := 3) rfl (by decide) rfl ?_
    refine V.goto (tgt := 18) dX8_from_50 (by decide) ?_
    refine V.iload_n (j := 3) rfl dX8_from_18 ?_
    refine V.aload_n (j := 0) rfl dX8_from_19 ?_
    refine V.geti (v := nI 1) dX8_from_20 fX8_127 rfl rfl hq ?_
    refine V.icmp_ge (tgt := 53) dX8_from_23 (by decide) (fun _ => ?_) (fun z => absurd z (by decide))
    refine V.iload_n (j := 2) rfl dX8_from_53 ?_
    refine V.ri dX8_from_54 rfl ?_
    exact ⟨rfl, rfl, rfl⟩
  refine V.icmp_ne (tgt := 45) dX8_from_33 (by decide) (fun c4 => ?_) (fun c4 => ?_)
  · refine V.iload_n (j := 2) rfl dX8_from_45 ?_
    exact V.st (by rw [if_neg c4]) K2
  · refine V.aload_n (j := 0) rfl dX8_from_36 ?_
    refine V.getr (q := m_into) dX8_from_37 fX8_76 rfl rfl ?_
    refine V.iload_n (j := 3) rfl dX8_from_40 ?_
    refine V.lda (v := A m_into 0) dX8_from_41 rfl (by decide) (by decide) rfl ?_
    refine V.goto (tgt := 46) dX8_from_42 (by decide) ?_
    exact V.st (by rw [if_pos c4]) K2
set_option maxRecDepth 100000 in
set_option maxHeartbeats 4000000 in
theorem md_from2 {G : am_G} (I A : Nat → Nat → Int32) (hq : I mM 25 = nI 2) (v : Nat) (hv : v < 24) : Cm G MX8_from 1 21 [.ref mM, .int (nI v)] I A (fun r I' A' => r = some (.int (mz_from (A m_classes) (A m_homes) (A m_fetches) (A m_into) 2 v)) ∧ I = I' ∧ A = A') := by
  refine Cm.of (by decide) (Nat.le_of_ble_eq_true rfl) rfl ?_
  show V G MX8_from (am_R 1 21 0 0) _ 0 0 0 [(0, .ref mM), (1, .int (nI v))] [] (hp I A)
  refine V.aload_n (j := 0) rfl dX8_from_0 ?_
  refine V.getr (q := m_classes) dX8_from_1 fX8_7 rfl rfl ?_
  refine V.iload_n (j := 1) rfl dX8_from_4 ?_
  refine V.lda (v := A m_classes v) dX8_from_5 rfl (by omega) (by decide) rfl ?_
  refine V.aload_n (j := 0) rfl dX8_from_6 ?_
  refine V.getr (q := m_homes) dX8_from_7 fX8_46 rfl rfl ?_
  refine V.iload_n (j := 1) rfl dX8_from_10 ?_
  refine V.lda (v := A m_homes v) dX8_from_11 rfl (by omega) (by decide) rfl ?_
  refine V.cS (As := [.int (A m_classes v), .int (A m_homes v)]) (st := []) dX8_from_12 sX8_130 zX8_register (md_reg I A _ _) ⟨by decide, by decide⟩ (Nat.le_of_ble_eq_true rfl) rfl (fun r I' A' hq => ?_)
  obtain ⟨rfl, rfl, rfl⟩ := hq
  refine V.st (st' := [.int (mz_reg (A m_classes v) (A m_homes v))]) rfl ?_
  refine V.istore_n (ls' := [(0, .ref mM), (1, .int (nI v)), (2, .int (mz_reg (A m_classes v) (A m_homes v)))]) dX8_from_15 (by decide) rfl ?_
  refine V.iconst (v := nI 0) (by decide) dX8_from_16 ?_
  refine V.istore_n (ls' := [(0, .ref mM), (1, .int (nI v)), (2, .int (mz_reg (A m_classes v) (A m_homes v))), (3, .int (nI 0))]) dX8_from_17 (by decide) rfl ?_
  refine V.iload_n (j := 3) rfl dX8_from_18 ?_
  refine V.aload_n (j := 0) rfl dX8_from_19 ?_
  refine V.geti (v := nI 2) dX8_from_20 fX8_127 rfl rfl hq ?_
  refine V.icmp_ge (tgt := 53) dX8_from_23 (by decide) (fun z => absurd z (by decide)) (fun _ => ?_)
  refine V.aload_n (j := 0) rfl dX8_from_26 ?_
  refine V.getr (q := m_fetches) dX8_from_27 fX8_73 rfl rfl ?_
  refine V.iload_n (j := 3) rfl dX8_from_30 ?_
  refine V.lda (v := A m_fetches 0) dX8_from_31 rfl (by decide) (by decide) rfl ?_
  refine V.iload_n (j := 1) rfl dX8_from_32 ?_
  have K2 : V G MX8_from (am_R 1 21 0 0) (am_Fin G 0 0 (Pm (fun r I' A' => r = some (.int (mz_from (A m_classes) (A m_homes) (A m_fetches) (A m_into) 2 v)) ∧ I = I' ∧ A = A'))) 0 0 46 [(0, .ref mM), (1, .int (nI v)), (2, .int (mz_reg (A m_classes v) (A m_homes v))), (3, .int (nI 0))] [.int (if A m_fetches 0 = nI v then A m_into 0 else mz_reg (A m_classes v) (A m_homes v))] (hp I A) := by
    refine V.istore_n (ls' := [(0, .ref mM), (1, .int (nI v)), (2, .int (if A m_fetches 0 = nI v then A m_into 0 else mz_reg (A m_classes v) (A m_homes v))), (3, .int (nI 0))]) dX8_from_46 (by decide) rfl ?_
    refine V.iincN (ls' := [(0, .ref mM), (1, .int (nI v)), (2, .int (if A m_fetches 0 = nI v then A m_into 0 else mz_reg (A m_classes v) (A m_homes v))), (3, .int (nI 1))]) dX8_from_47 (j := 3) rfl (by decide) rfl ?_
    refine V.goto (tgt := 18) dX8_from_50 (by decide) ?_
    refine V.iload_n (j := 3) rfl dX8_from_18 ?_
    refine V.aload_n (j := 0) rfl dX8_from_19 ?_
    refine V.geti (v := nI 2) dX8_from_20 fX8_127 rfl rfl hq ?_
    refine V.icmp_ge (tgt := 53) dX8_from_23 (by decide) (fun z => absurd z (by decide)) (fun _ => ?_)
    refine V.aload_n (j := 0) rfl dX8_from_26 ?_
    refine V.getr (q := m_fetches) dX8_from_27 fX8_73 rfl rfl ?_
    refine V.iload_n (j := 3) rfl dX8_from_30 ?_
    refine V.lda (v := A m_fetches 1) dX8_from_31 rfl (by decide) (by decide) rfl ?_
    refine V.iload_n (j := 1) rfl dX8_from_32 ?_
    have K4 : V G MX8_from (am_R 1 21 0 0) (am_Fin G 0 0 (Pm (fun r I' A' => r = some (.int (mz_from (A m_classes) (A m_homes) (A m_fetches) (A m_into) 2 v)) ∧ I = I' ∧ A = A'))) 0 0 46 [(0, .ref mM), (1, .int (nI v)), (2, .int (if A m_fetches 0 = nI v then A m_into 0 else mz_reg (A m_classes v) (A m_homes v))), (3, .int (nI 1))] [.int (if A m_fetches 1 = nI v then A m_into 1 else if A m_fetches 0 = nI v then A m_into 0 else mz_reg (A m_classes v) (A m_homes v))] (hp I A) := by
      refine V.istore_n (ls' := [(0, .ref mM), (1, .int (nI v)), (2, .int (if A m_fetches 1 = nI v then A m_into 1 else if A m_fetches 0 = nI v then A m_into 0 else mz_reg (A m_classes v) (A m_homes v))), (3, .int (nI 1))]) dX8_from_46 (by decide) rfl ?_
      refine V.iincN (ls' := [(0, .ref mM), (1, .int (nI v)), (2, .int (if A m_fetches 1 = nI v then A m_into 1 else if A m_fetches 0 = nI v then A m_into 0 else mz_reg (A m_classes v) (A m_homes v))), (3, .int (nI 2))]) dX8_from_47 (j := 3) rfl (by decide) rfl ?_
      refine V.goto (tgt := 18) dX8_from_50 (by decide) ?_
      refine V.iload_n (j := 3) rfl dX8_from_18 ?_
      refine V.aload_n (j := 0) rfl dX8_from_19 ?_
      refine V.geti (v := nI 2) dX8_from_20 fX8_127 rfl rfl hq ?_
      refine V.icmp_ge (tgt := 53) dX8_from_23 (by decide) (fun _ => ?_) (fun z => absurd z (by decide))
      refine V.iload_n (j := 2) rfl dX8_from_53 ?_
      refine V.ri dX8_from_54 rfl ?_
      exact ⟨rfl, rfl, rfl⟩
    refine V.icmp_ne (tgt := 45) dX8_from_33 (by decide) (fun c6 => ?_) (fun c6 => ?_)
    · refine V.iload_n (j := 2) rfl dX8_from_45 ?_
      exact V.st (by rw [if_neg c6]) K4
    · refine V.aload_n (j := 0) rfl dX8_from_36 ?_
      refine V.getr (q := m_into) dX8_from_37 fX8_76 rfl rfl ?_
      refine V.iload_n (j := 3) rfl dX8_from_40 ?_
      refine V.lda (v := A m_into 1) dX8_from_41 rfl (by decide) (by decide) rfl ?_
      refine V.goto (tgt := 46) dX8_from_42 (by decide) ?_
      exact V.st (by rw [if_pos c6]) K4
  refine V.icmp_ne (tgt := 45) dX8_from_33 (by decide) (fun c7 => ?_) (fun c7 => ?_)
  · refine V.iload_n (j := 2) rfl dX8_from_45 ?_
    exact V.st (by rw [if_neg c7]) K2
  · refine V.aload_n (j := 0) rfl dX8_from_36 ?_
    refine V.getr (q := m_into) dX8_from_37 fX8_76 rfl rfl ?_
    refine V.iload_n (j := 3) rfl dX8_from_40 ?_
    refine V.lda (v := A m_into 0) dX8_from_41 rfl (by decide) (by decide) rfl ?_
    refine V.goto (tgt := 46) dX8_from_42 (by decide) ?_
    exact V.st (by rw [if_pos c7]) K2
theorem md_from {G : am_G} (I A : Nat → Nat → Int32) (q : Nat) (hq2 : q ≤ 2) (hq : I mM 25 = nI q) (v : Nat) (hv : v < 24) : Cm G MX8_from 1 21 [.ref mM, .int (nI v)] I A (fun r I' A' => r = some (.int (mz_from (A m_classes) (A m_homes) (A m_fetches) (A m_into) q v)) ∧ I = I' ∧ A = A') := by
  rcases (show q = 0 ∨ q = 1 ∨ q = 2 by omega) with rfl | rfl | rfl
  · exact md_from0 I A hq v hv
  · exact md_from1 I A hq v hv
  · exact md_from2 I A hq v hv
abbrev mz_FS : Type := Nat × (Nat → Int32) × (Nat → Int32) × (Nat → Int32) × Nat
/-- a value is fetched: how many are, which, where to, the code, the number of items -/
def mz_ft (cl hm : Nat → Int32) (v : Nat) (F : mz_FS) : mz_FS :=
  if F.1 = 1 ∧ F.2.1 0 = nI v then F else
  (F.1 + 1, upd F.2.1 F.1 (nI v), upd F.2.2.1 F.1 (mz_reg (cl v) (if F.1 = 1 ∧ cl (F.2.1 0).toNatClampNeg = cl v then nI 9 else nI 8)), mz_lay F.2.2.2.1 F.2.2.2.2 (nI 11) (mz_reg (cl v) (if F.1 = 1 ∧ cl (F.2.1 0).toNatClampNeg = cl v then nI 9 else nI 8)) (hm v - nI 100) (nI 0), F.2.2.2.2 + 1)
theorem mz_ft0 {cl hm fe it c : Nat → Int32} {v n : Nat} : mz_ft cl hm v (0, fe, it, c, n) = (1, upd fe 0 (nI v), upd it 0 (mz_reg (cl v) (nI 8)), mz_lay c n (nI 11) (mz_reg (cl v) (nI 8)) (hm v - nI 100) (nI 0), n + 1) := by
  unfold mz_ft
  have h0 : ¬ (0 = 1) := by decide
  rw [if_neg (fun z => h0 z.1), if_neg (fun z => h0 z.1)]
theorem mz_ft1s {cl hm fe it c : Nat → Int32} {v n : Nat} (h : fe 0 = nI v) : mz_ft cl hm v (1, fe, it, c, n) = (1, fe, it, c, n) := by
  unfold mz_ft
  rw [if_pos ⟨rfl, h⟩]
theorem mz_ft1d {cl hm fe it c : Nat → Int32} {v n f : Nat} (hf : f < 2 ^ 31) (hv : v < 2 ^ 31) (h : fe 0 = nI f) (hne : ¬ f = v) : mz_ft cl hm v (1, fe, it, c, n) = (2, upd fe 1 (nI v), upd it 1 (mz_reg (cl v) (if cl f = cl v then nI 9 else nI 8)), mz_lay c n (nI 11) (mz_reg (cl v) (if cl f = cl v then nI 9 else nI 8)) (hm v - nI 100) (nI 0), n + 1) := by
  have e : (if (1 = 1 ∧ cl (fe 0).toNatClampNeg = cl v) then nI 9 else nI 8) = if cl f = cl v then nI 9 else nI 8 := by
    rw [h, nI_clamp hf]
    simp
  unfold mz_ft
  rw [if_neg (fun z => hne ((nI_eq hf hv).mp (h.symm.trans z.2)))]
  dsimp only
  rw [e]
/-- the rows that a fetch moves -/
def mz_FA (A : Nat → Nat → Int32) (g : Nat → Int32) (F : mz_FS) : Nat → Nat → Int32 := upA (upA (upA (upA A m_fetches F.2.1) m_into F.2.2.1) m_code F.2.2.2.1) m_items (upd g 0 (nI F.2.2.2.2))
theorem mz_FA_i {A : Nat → Nat → Int32} {g : Nat → Int32} {q n : Nat} (hg : A m_items = upd g 0 (nI n)) : mz_FA A g (q, A m_fetches, A m_into, A m_code, n) = A := by
  unfold mz_FA
  dsimp only
  rw [upA_i, upA_i, upA_i, ← hg, upA_i]
set_option maxRecDepth 100000 in
set_option maxHeartbeats 4000000 in
theorem md_fetch0 {G : am_G} (I A : Nat → Nat → Int32) (hq : I mM 25 = nI 0) (g : Nat → Int32) (n : Nat) (hg : A m_items = upd g 0 (nI n)) (hn : n < 400) (v : Nat) (hv : v < 24) : Cm G MX8_fetch 1 25 [.ref mM, .int (nI v)] I A (fun r I' A' => r = none ∧ upI I mM 25 (nI (mz_ft (A m_classes) (A m_homes) v (0, A m_fetches, A m_into, A m_code, n)).1) = I' ∧ mz_FA A g (mz_ft (A m_classes) (A m_homes) v (0, A m_fetches, A m_into, A m_code, n)) = A') := by
  refine Cm.of (by decide) (Nat.le_of_ble_eq_true rfl) rfl ?_
  show V G MX8_fetch (am_R 1 25 0 0) _ 0 0 0 [(0, .ref mM), (1, .int (nI v))] [] (hp I A)
  refine V.bipush (v := nI 8) (by decide) dX8_fetch_0 ?_
  refine V.istore_n (ls' := [(0, .ref mM), (1, .int (nI v)), (2, .int (nI 8))]) dX8_fetch_2 (by decide) rfl ?_
  refine V.iconst (v := nI 0) (by decide) dX8_fetch_3 ?_
  refine V.istore_n (ls' := [(0, .ref mM), (1, .int (nI v)), (2, .int (nI 8)), (3, .int (nI 0))]) dX8_fetch_4 (by decide) rfl ?_
  refine V.iload_n (j := 3) rfl dX8_fetch_5 ?_
  refine V.aload_n (j := 0) rfl dX8_fetch_6 ?_
  refine V.geti (v := nI 0) dX8_fetch_7 fX8_127 rfl rfl hq ?_
  refine V.icmp_ge (tgt := 57) dX8_fetch_10 (by decide) (fun _ => ?_) (fun z => absurd z (by decide))
  refine V.aload_n (j := 0) rfl dX8_fetch_57 ?_
  refine V.getr (q := m_fetches) dX8_fetch_58 fX8_73 rfl rfl ?_
  refine V.aload_n (j := 0) rfl dX8_fetch_61 ?_
  refine V.geti (v := nI 0) dX8_fetch_62 fX8_127 rfl rfl hq ?_
  refine V.iload_n (j := 1) rfl dX8_fetch_65 ?_
  refine V.sta (g := upd (A m_fetches) 0 (nI v)) dX8_fetch_66 rfl (by decide) (by decide) rfl ?_
  refine V.aload_n (j := 0) rfl dX8_fetch_67 ?_
  refine V.getr (q := m_into) dX8_fetch_68 fX8_76 rfl rfl ?_
  refine V.aload_n (j := 0) rfl dX8_fetch_71 ?_
  refine V.geti (v := nI 0) dX8_fetch_72 fX8_127 rfl rfl hq ?_
  refine V.aload_n (j := 0) rfl dX8_fetch_75 ?_
  refine V.getr (q := m_classes) dX8_fetch_76 fX8_7 rfl rfl ?_
  refine V.iload_n (j := 1) rfl dX8_fetch_79 ?_
  refine V.lda (v := A m_classes v) dX8_fetch_80 rfl (by omega) (by decide) rfl ?_
  refine V.iload_n (j := 2) rfl dX8_fetch_81 ?_
  refine V.cS (As := [.int (A m_classes v), .int (nI 8)]) (st := [.int (nI 0), .ref m_into]) dX8_fetch_82 sX8_130 zX8_register (md_reg I (upA A m_fetches (upd (A m_fetches) 0 (nI v))) _ _) ⟨by decide, by decide⟩ (Nat.le_of_ble_eq_true rfl) rfl (fun r I' A' hq => ?_)
  obtain ⟨rfl, rfl, rfl⟩ := hq
  refine V.st (st' := [.int (mz_reg (A m_classes v) (nI 8)), .int (nI 0), .ref m_into]) rfl ?_
  refine V.sta (g := upd (A m_into) 0 (mz_reg (A m_classes v) (nI 8))) dX8_fetch_85 rfl (by decide) (by decide) rfl ?_
  refine V.aload_n (j := 0) rfl dX8_fetch_86 ?_
  refine V.dup rfl dX8_fetch_87 ?_
  refine V.geti (v := nI 0) dX8_fetch_88 fX8_127 rfl rfl hq ?_
  refine V.iconst (v := nI 1) (by decide) dX8_fetch_91 ?_
  refine V.iaddN dX8_fetch_92 ?_
  refine V.st (st' := [.int (nI 1), .ref mM]) rfl ?_
  refine V.puti dX8_fetch_93 pX8_127 rfl rfl ?_
  refine V.aload_n (j := 0) rfl dX8_fetch_96 ?_
  refine V.bipush (v := nI 11) (by decide) dX8_fetch_97 ?_
  refine V.aload_n (j := 0) rfl dX8_fetch_99 ?_
  refine V.getr (q := m_classes) dX8_fetch_100 fX8_7 rfl rfl ?_
  refine V.iload_n (j := 1) rfl dX8_fetch_103 ?_
  refine V.lda (v := A m_classes v) dX8_fetch_104 rfl (by omega) (by decide) rfl ?_
  refine V.iload_n (j := 2) rfl dX8_fetch_105 ?_
  refine V.cS (As := [.int (A m_classes v), .int (nI 8)]) (st := [.int (nI 11), .ref mM]) dX8_fetch_106 sX8_130 zX8_register (md_reg (upI I mM 25 (nI 1)) (upA (upA A m_fetches (upd (A m_fetches) 0 (nI v))) m_into (upd (A m_into) 0 (mz_reg (A m_classes v) (nI 8)))) _ _) ⟨by decide, by decide⟩ (Nat.le_of_ble_eq_true rfl) rfl (fun r I' A' hq => ?_)
  obtain ⟨rfl, rfl, rfl⟩ := hq
  refine V.st (st' := [.int (mz_reg (A m_classes v) (nI 8)), .int (nI 11), .ref mM]) rfl ?_
  refine V.aload_n (j := 0) rfl dX8_fetch_109 ?_
  refine V.getr (q := m_homes) dX8_fetch_110 fX8_46 rfl rfl ?_
  refine V.iload_n (j := 1) rfl dX8_fetch_113 ?_
  refine V.lda (v := A m_homes v) dX8_fetch_114 rfl (by omega) (by decide) rfl ?_
  refine V.bipush (v := nI 100) (by decide) dX8_fetch_115 ?_
  refine V.isub dX8_fetch_117 ?_
  refine V.iconst (v := nI 0) (by decide) dX8_fetch_118 ?_
  refine V.cV (As := [.int (nI 11), .int (mz_reg (A m_classes v) (nI 8)), .int ((A m_homes v) - (nI 100)), .int (nI 0)]) (st := []) dX8_fetch_119 sX8_133 iX8_lay lX8_lay rfl rfl (md_lay (upI I mM 25 (nI 1)) (upA (upA A m_fetches (upd (A m_fetches) 0 (nI v))) m_into (upd (A m_into) 0 (mz_reg (A m_classes v) (nI 8)))) g n hg (by omega) _ _ _ _) ⟨by decide, by decide⟩ (Nat.le_of_ble_eq_true rfl) rfl (fun r I' A' hq => ?_)
  obtain ⟨rfl, rfl, rfl⟩ := hq
  refine V.st (st' := []) rfl ?_
  refine V.rv dX8_fetch_122 rfl ?_
  exact ⟨rfl, by rw [mz_ft0], by rw [mz_ft0]; rfl⟩
set_option maxRecDepth 100000 in
set_option maxHeartbeats 4000000 in
theorem md_fetch1 {G : am_G} (I A : Nat → Nat → Int32) (hq : I mM 25 = nI 1) (f : Nat) (hf24 : f < 24) (hf : A m_fetches 0 = nI f) (g : Nat → Int32) (n : Nat) (hg : A m_items = upd g 0 (nI n)) (hn : n < 400) (v : Nat) (hv : v < 24) : Cm G MX8_fetch 1 25 [.ref mM, .int (nI v)] I A (fun r I' A' => r = none ∧ upI I mM 25 (nI (mz_ft (A m_classes) (A m_homes) v (1, A m_fetches, A m_into, A m_code, n)).1) = I' ∧ mz_FA A g (mz_ft (A m_classes) (A m_homes) v (1, A m_fetches, A m_into, A m_code, n)) = A') := by
  refine Cm.of (by decide) (Nat.le_of_ble_eq_true rfl) rfl ?_
  show V G MX8_fetch (am_R 1 25 0 0) _ 0 0 0 [(0, .ref mM), (1, .int (nI v))] [] (hp I A)
  refine V.bipush (v := nI 8) (by decide) dX8_fetch_0 ?_
  refine V.istore_n (ls' := [(0, .ref mM), (1, .int (nI v)), (2, .int (nI 8))]) dX8_fetch_2 (by decide) rfl ?_
  refine V.iconst (v := nI 0) (by decide) dX8_fetch_3 ?_
  refine V.istore_n (ls' := [(0, .ref mM), (1, .int (nI v)), (2, .int (nI 8)), (3, .int (nI 0))]) dX8_fetch_4 (by decide) rfl ?_
  refine V.iload_n (j := 3) rfl dX8_fetch_5 ?_
  refine V.aload_n (j := 0) rfl dX8_fetch_6 ?_
  refine V.geti (v := nI 1) dX8_fetch_7 fX8_127 rfl rfl hq ?_
  refine V.icmp_ge (tgt := 57) dX8_fetch_10 (by decide) (fun z => absurd z (by decide)) (fun _ => ?_)
  refine V.aload_n (j := 0) rfl dX8_fetch_13 ?_
  refine V.getr (q := m_fetches) dX8_fetch_14 fX8_73 rfl rfl ?_
  refine V.iload_n (j := 3) rfl dX8_fetch_17 ?_
  refine V.lda (v := nI f) dX8_fetch_18 rfl (by decide) (by decide) hf ?_
  refine V.iload_n (j := 1) rfl dX8_fetch_19 ?_
  refine V.icmp_neN (tgt := 24) dX8_fetch_20 (by decide) (by omega) (by omega) (fun c2 => ?_) (fun c2 => ?_)
  · refine V.aload_n (j := 0) rfl dX8_fetch_24 ?_
    refine V.getr (q := m_classes) dX8_fetch_25 fX8_7 rfl rfl ?_
    refine V.aload_n (j := 0) rfl dX8_fetch_28 ?_
    refine V.getr (q := m_fetches) dX8_fetch_29 fX8_73 rfl rfl ?_
    refine V.iload_n (j := 3) rfl dX8_fetch_32 ?_
    refine V.lda (v := nI f) dX8_fetch_33 rfl (by decide) (by decide) hf ?_
    refine V.lda (v := A m_classes f) dX8_fetch_34 rfl (by omega) (by decide) rfl ?_
    refine V.aload_n (j := 0) rfl dX8_fetch_35 ?_
    refine V.getr (q := m_classes) dX8_fetch_36 fX8_7 rfl rfl ?_
    refine V.iload_n (j := 1) rfl dX8_fetch_39 ?_
    refine V.lda (v := A m_classes v) dX8_fetch_40 rfl (by omega) (by decide) rfl ?_
    have K3 : V G MX8_fetch (am_R 1 25 0 0) (am_Fin G 0 0 (Pm (fun r I' A' => r = none ∧ upI I mM 25 (nI (mz_ft (A m_classes) (A m_homes) v (1, A m_fetches, A m_into, A m_code, n)).1) = I' ∧ mz_FA A g (mz_ft (A m_classes) (A m_homes) v (1, A m_fetches, A m_into, A m_code, n)) = A'))) 0 0 50 [(0, .ref mM), (1, .int (nI v)), (2, .int (nI 8)), (3, .int (nI 0))] [.int (if A m_classes f = A m_classes v then nI 9 else nI 8)] (hp I A) := by
      refine V.istore_n (ls' := [(0, .ref mM), (1, .int (nI v)), (2, .int (if A m_classes f = A m_classes v then nI 9 else nI 8)), (3, .int (nI 0))]) dX8_fetch_50 (by decide) rfl ?_
      refine V.iincN (ls' := [(0, .ref mM), (1, .int (nI v)), (2, .int (if A m_classes f = A m_classes v then nI 9 else nI 8)), (3, .int (nI 1))]) dX8_fetch_51 (j := 3) rfl (by decide) rfl ?_
      refine V.goto (tgt := 5) dX8_fetch_54 (by decide) ?_
      refine V.iload_n (j := 3) rfl dX8_fetch_5 ?_
      refine V.aload_n (j := 0) rfl dX8_fetch_6 ?_
      refine V.geti (v := nI 1) dX8_fetch_7 fX8_127 rfl rfl hq ?_
      refine V.icmp_ge (tgt := 57) dX8_fetch_10 (by decide) (fun _ => ?_) (fun z => absurd z (by decide))
      refine V.aload_n (j := 0) rfl dX8_fetch_57 ?_
      refine V.getr (q := m_fetches) dX8_fetch_58 fX8_73 rfl rfl ?_
      refine V.aload_n (j := 0) rfl dX8_fetch_61 ?_
      refine V.geti (v := nI 1) dX8_fetch_62 fX8_127 rfl rfl hq ?_
      refine V.iload_n (j := 1) rfl dX8_fetch_65 ?_
      refine V.sta (g := upd (A m_fetches) 1 (nI v)) dX8_fetch_66 rfl (by decide) (by decide) rfl ?_
      refine V.aload_n (j := 0) rfl dX8_fetch_67 ?_
      refine V.getr (q := m_into) dX8_fetch_68 fX8_76 rfl rfl ?_
      refine V.aload_n (j := 0) rfl dX8_fetch_71 ?_
      refine V.geti (v := nI 1) dX8_fetch_72 fX8_127 rfl rfl hq ?_
      refine V.aload_n (j := 0) rfl dX8_fetch_75 ?_
      refine V.getr (q := m_classes) dX8_fetch_76 fX8_7 rfl rfl ?_
      refine V.iload_n (j := 1) rfl dX8_fetch_79 ?_
      refine V.lda (v := A m_classes v) dX8_fetch_80 rfl (by omega) (by decide) rfl ?_
      refine V.iload_n (j := 2) rfl dX8_fetch_81 ?_
      refine V.cS (As := [.int (A m_classes v), .int (if A m_classes f = A m_classes v then nI 9 else nI 8)]) (st := [.int (nI 1), .ref m_into]) dX8_fetch_82 sX8_130 zX8_register (md_reg I (upA A m_fetches (upd (A m_fetches) 1 (nI v))) _ _) ⟨by decide, by decide⟩ (Nat.le_of_ble_eq_true rfl) rfl (fun r I' A' hq => ?_)
      obtain ⟨rfl, rfl, rfl⟩ := hq
      refine V.st (st' := [.int (mz_reg (A m_classes v) (if A m_classes f = A m_classes v then nI 9 else nI 8)), .int (nI 1), .ref m_into]) rfl ?_
      refine V.sta (g := upd (A m_into) 1 (mz_reg (A m_classes v) (if A m_classes f = A m_classes v then nI 9 else nI 8))) dX8_fetch_85 rfl (by decide) (by decide) rfl ?_
      refine V.aload_n (j := 0) rfl dX8_fetch_86 ?_
      refine V.dup rfl dX8_fetch_87 ?_
      refine V.geti (v := nI 1) dX8_fetch_88 fX8_127 rfl rfl hq ?_
      refine V.iconst (v := nI 1) (by decide) dX8_fetch_91 ?_
      refine V.iaddN dX8_fetch_92 ?_
      refine V.st (st' := [.int (nI 2), .ref mM]) rfl ?_
      refine V.puti dX8_fetch_93 pX8_127 rfl rfl ?_
      refine V.aload_n (j := 0) rfl dX8_fetch_96 ?_
      refine V.bipush (v := nI 11) (by decide) dX8_fetch_97 ?_
      refine V.aload_n (j := 0) rfl dX8_fetch_99 ?_
      refine V.getr (q := m_classes) dX8_fetch_100 fX8_7 rfl rfl ?_
      refine V.iload_n (j := 1) rfl dX8_fetch_103 ?_
      refine V.lda (v := A m_classes v) dX8_fetch_104 rfl (by omega) (by decide) rfl ?_
      refine V.iload_n (j := 2) rfl dX8_fetch_105 ?_
      refine V.cS (As := [.int (A m_classes v), .int (if A m_classes f = A m_classes v then nI 9 else nI 8)]) (st := [.int (nI 11), .ref mM]) dX8_fetch_106 sX8_130 zX8_register (md_reg (upI I mM 25 (nI 2)) (upA (upA A m_fetches (upd (A m_fetches) 1 (nI v))) m_into (upd (A m_into) 1 (mz_reg (A m_classes v) (if A m_classes f = A m_classes v then nI 9 else nI 8)))) _ _) ⟨by decide, by decide⟩ (Nat.le_of_ble_eq_true rfl) rfl (fun r I' A' hq => ?_)
      obtain ⟨rfl, rfl, rfl⟩ := hq
      refine V.st (st' := [.int (mz_reg (A m_classes v) (if A m_classes f = A m_classes v then nI 9 else nI 8)), .int (nI 11), .ref mM]) rfl ?_
      refine V.aload_n (j := 0) rfl dX8_fetch_109 ?_
      refine V.getr (q := m_homes) dX8_fetch_110 fX8_46 rfl rfl ?_
      refine V.iload_n (j := 1) rfl dX8_fetch_113 ?_
      refine V.lda (v := A m_homes v) dX8_fetch_114 rfl (by omega) (by decide) rfl ?_
      refine V.bipush (v := nI 100) (by decide) dX8_fetch_115 ?_
      refine V.isub dX8_fetch_117 ?_
      refine V.iconst (v := nI 0) (by decide) dX8_fetch_118 ?_
      refine V.cV (As := [.int (nI 11), .int (mz_reg (A m_classes v) (if A m_classes f = A m_classes v then nI 9 else nI 8)), .int ((A m_homes v) - (nI 100)), .int (nI 0)]) (st := []) dX8_fetch_119 sX8_133 iX8_lay lX8_lay rfl rfl (md_lay (upI I mM 25 (nI 2)) (upA (upA A m_fetches (upd (A m_fetches) 1 (nI v))) m_into (upd (A m_into) 1 (mz_reg (A m_classes v) (if A m_classes f = A m_classes v then nI 9 else nI 8)))) g n hg (by omega) _ _ _ _) ⟨by decide, by decide⟩ (Nat.le_of_ble_eq_true rfl) rfl (fun r I' A' hq => ?_)
      obtain ⟨rfl, rfl, rfl⟩ := hq
      refine V.st (st' := []) rfl ?_
      refine V.rv dX8_fetch_122 rfl ?_
      have e := mz_ft1d (cl := A m_classes) (hm := A m_homes) (it := A m_into) (c := A m_code) (n := n) (show f < 2 ^ 31 by omega) (show v < 2 ^ 31 by omega) hf c2
      exact ⟨rfl, by rw [e], by rw [e]; rfl⟩
    refine V.icmp_ne (tgt := 49) dX8_fetch_41 (by decide) (fun c5 => ?_) (fun c5 => ?_)
    · refine V.iload_n (j := 2) rfl dX8_fetch_49 ?_
      exact V.st (by rw [if_neg c5]) K3
    · refine V.bipush (v := nI 9) (by decide) dX8_fetch_44 ?_
      refine V.goto (tgt := 50) dX8_fetch_46 (by decide) ?_
      exact V.st (by rw [if_pos c5]) K3
  · refine V.rv dX8_fetch_23 rfl ?_
    have e : A m_fetches 0 = nI v := by rw [hf, c2]
    exact ⟨rfl, by rw [mz_ft1s e, ← hq, upI_i], by rw [mz_ft1s e, mz_FA_i hg]⟩
