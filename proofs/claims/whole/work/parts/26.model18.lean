/-- m places from i on get what stands in another row -/
def mz_cpf (g : Nat → Int32) : Nat → Nat → (Nat → Int32) → Nat → Int32
  | 0, _, f => f
  | m + 1, i, f => mz_cpf g m (i + 1) (upd f i (g i))
set_option maxRecDepth 100000 in
set_option maxHeartbeats 4000000 in
theorem ml_begin1 {G : am_G} {Fn : Array Value → State → List Frame → State → Prop} (I A : Nat → Nat → Int32)  : ∀ (m : Nat) (i : Nat) (f : Nat → Int32) (g : Nat → Int32), i + m = 64 → V G MX8_begin (am_R 0 0 0 0) Fn 0 0 43 [(0, .ref mM)] [] (hp I (upA (upA A m_left (mz_cpf (A m_memory) m i f)) m_slots (mz_fill m i g))) → V G MX8_begin (am_R 0 0 0 0) Fn 0 0 12 [(0, .ref mM), (1, .int (nI i))] [] (hp I (upA (upA A m_left (f)) m_slots (g))) := by
  intro m
  induction m with
  | zero =>
    intro i f g hi0 hk
    refine V.iload_n (j := 1) rfl dX8_begin_12 ?_
    refine V.bipush (v := nI 64) (by decide) dX8_begin_13 ?_
    refine V.icmp_geN (tgt := 43) dX8_begin_15 (by decide) (by omega) (by omega) (fun c1 => ?_) (fun c1 => ?_)
    · refine V.fewer [0] rfl ?_
      exact hk
    · exact absurd c1 (by omega)
  | succ m ih =>
    intro i f g hi0 hk
    refine V.iload_n (j := 1) rfl dX8_begin_12 ?_
    refine V.bipush (v := nI 64) (by decide) dX8_begin_13 ?_
    refine V.icmp_geN (tgt := 43) dX8_begin_15 (by decide) (by omega) (by omega) (fun c2 => ?_) (fun c2 => ?_)
    · exact absurd c2 (by omega)
    · refine V.aload_n (j := 0) rfl dX8_begin_18 ?_
      refine V.getr (q := m_left) dX8_begin_19 fX8_61 rfl rfl ?_
      refine V.iload_n (j := 1) rfl dX8_begin_22 ?_
      refine V.aload_n (j := 0) rfl dX8_begin_23 ?_
      refine V.getr (q := m_memory) dX8_begin_24 fX8_28 rfl rfl ?_
      refine V.iload_n (j := 1) rfl dX8_begin_27 ?_
      refine V.lda (v := A m_memory i) dX8_begin_28 rfl (by omega) (by decide) rfl ?_
      refine V.sta (g := upd f i (A m_memory i)) dX8_begin_29 rfl (by omega) (by decide) rfl ?_
      refine V.hpe (A' := (upA (upA A m_left (upd f i (A m_memory i))) m_slots (g))) rfl (upA_r2 (by decide)) ?_
      refine V.aload_n (j := 0) rfl dX8_begin_30 ?_
      refine V.getr (q := m_slots) dX8_begin_31 fX8_67 rfl rfl ?_
      refine V.iload_n (j := 1) rfl dX8_begin_34 ?_
      refine V.iconst (v := nI 0) (by decide) dX8_begin_35 ?_
      refine V.sta (g := upd g i (nI 0)) dX8_begin_36 rfl (by omega) (by decide) rfl ?_
      refine V.hpe (A' := (upA (upA A m_left (upd f i (A m_memory i))) m_slots (upd g i (nI 0)))) rfl upA_u ?_
      refine V.iincN (ls' := [(0, .ref mM), (1, .int (nI (i + 1)))]) dX8_begin_37 (j := 1) rfl (by decide) rfl ?_
      refine V.goto (tgt := 12) dX8_begin_40 (by decide) ?_
      exact ih (i + 1) _ _ (by omega) hk
set_option maxRecDepth 100000 in
set_option maxHeartbeats 4000000 in
theorem ml_begin2 {G : am_G} {Fn : Array Value → State → List Frame → State → Prop} (I A : Nat → Nat → Int32)  : ∀ (m : Nat) (i : Nat) (f : Nat → Int32), i + m = 32 → V G MX8_begin (am_R 0 0 0 0) Fn 0 0 64 [(0, .ref mM)] [] (hp I (upA A m_held (mz_fill m i f))) → V G MX8_begin (am_R 0 0 0 0) Fn 0 0 45 [(0, .ref mM), (1, .int (nI i))] [] (hp I (upA A m_held (f))) := by
  intro m
  induction m with
  | zero =>
    intro i f hi0 hk
    refine V.iload_n (j := 1) rfl dX8_begin_45 ?_
    refine V.bipush (v := nI 32) (by decide) dX8_begin_46 ?_
    refine V.icmp_geN (tgt := 64) dX8_begin_48 (by decide) (by omega) (by omega) (fun c1 => ?_) (fun c1 => ?_)
    · refine V.fewer [0] rfl ?_
      exact hk
    · exact absurd c1 (by omega)
  | succ m ih =>
    intro i f hi0 hk
    refine V.iload_n (j := 1) rfl dX8_begin_45 ?_
    refine V.bipush (v := nI 32) (by decide) dX8_begin_46 ?_
    refine V.icmp_geN (tgt := 64) dX8_begin_48 (by decide) (by omega) (by omega) (fun c2 => ?_) (fun c2 => ?_)
    · exact absurd c2 (by omega)
    · refine V.aload_n (j := 0) rfl dX8_begin_51 ?_
      refine V.getr (q := m_held) dX8_begin_52 fX8_64 rfl rfl ?_
      refine V.iload_n (j := 1) rfl dX8_begin_55 ?_
      refine V.iconst (v := nI 0) (by decide) dX8_begin_56 ?_
      refine V.sta (g := upd f i (nI 0)) dX8_begin_57 rfl (by omega) (by decide) rfl ?_
      refine V.hpe (A' := (upA A m_held (upd f i (nI 0)))) rfl upA_u ?_
      refine V.iincN (ls' := [(0, .ref mM), (1, .int (nI (i + 1)))]) dX8_begin_58 (j := 1) rfl (by decide) rfl ?_
      refine V.goto (tgt := 45) dX8_begin_61 (by decide) ?_
      exact ih (i + 1) _ (by omega) hk
set_option maxRecDepth 100000 in
set_option maxHeartbeats 4000000 in
theorem ml_begin3 {G : am_G} {Fn : Array Value → State → List Frame → State → Prop} (I A : Nat → Nat → Int32)  : ∀ (m : Nat) (i : Nat) (f : Nat → Int32), i + m = 24 → V G MX8_begin (am_R 0 0 0 0) Fn 0 0 85 [(0, .ref mM)] [] (hp I (upA A m_now (mz_fill m i f))) → V G MX8_begin (am_R 0 0 0 0) Fn 0 0 66 [(0, .ref mM), (1, .int (nI i))] [] (hp I (upA A m_now (f))) := by
  intro m
  induction m with
  | zero =>
    intro i f hi0 hk
    refine V.iload_n (j := 1) rfl dX8_begin_66 ?_
    refine V.bipush (v := nI 24) (by decide) dX8_begin_67 ?_
    refine V.icmp_geN (tgt := 85) dX8_begin_69 (by decide) (by omega) (by omega) (fun c1 => ?_) (fun c1 => ?_)
    · refine V.fewer [0] rfl ?_
      exact hk
    · exact absurd c1 (by omega)
  | succ m ih =>
    intro i f hi0 hk
    refine V.iload_n (j := 1) rfl dX8_begin_66 ?_
    refine V.bipush (v := nI 24) (by decide) dX8_begin_67 ?_
    refine V.icmp_geN (tgt := 85) dX8_begin_69 (by decide) (by omega) (by omega) (fun c2 => ?_) (fun c2 => ?_)
    · exact absurd c2 (by omega)
    · refine V.aload_n (j := 0) rfl dX8_begin_72 ?_
      refine V.getr (q := m_now) dX8_begin_73 fX8_70 rfl rfl ?_
      refine V.iload_n (j := 1) rfl dX8_begin_76 ?_
      refine V.iconst (v := nI 0) (by decide) dX8_begin_77 ?_
      refine V.sta (g := upd f i (nI 0)) dX8_begin_78 rfl (by omega) (by decide) rfl ?_
      refine V.hpe (A' := (upA A m_now (upd f i (nI 0)))) rfl upA_u ?_
      refine V.iincN (ls' := [(0, .ref mM), (1, .int (nI (i + 1)))]) dX8_begin_79 (j := 1) rfl (by decide) rfl ?_
      refine V.goto (tgt := 66) dX8_begin_82 (by decide) ?_
      exact ih (i + 1) _ (by omega) hk
set_option maxRecDepth 100000 in
set_option maxHeartbeats 4000000 in
theorem md_begin {G : am_G} (I A : Nat → Nat → Int32)  : Cm G MX8_begin 0 0 [.ref mM] I A (fun r I' A' => r = none ∧ (upI (upI I mM 18 (nI 0)) mM 19 (nI 0)) = I' ∧ upA (upA (upA (upA A m_left (mz_cpf (A m_memory) 64 0 (A m_left))) m_slots (mz_fill 64 0 (A m_slots))) m_held (mz_fill 32 0 (A m_held))) m_now (mz_fill 24 0 (A m_now)) = A') := by
  refine Cm.of (by decide) (Nat.le_of_ble_eq_true rfl) rfl ?_
  show V G MX8_begin (am_R 0 0 0 0) _ 0 0 0 [(0, .ref mM)] [] (hp I A)
  refine V.aload_n (j := 0) rfl dX8_begin_0 ?_
  refine V.iconst (v := nI 0) (by decide) dX8_begin_1 ?_
  refine V.puti dX8_begin_2 pX8_172 rfl rfl ?_
  refine V.aload_n (j := 0) rfl dX8_begin_5 ?_
  refine V.iconst (v := nI 0) (by decide) dX8_begin_6 ?_
  refine V.puti dX8_begin_7 pX8_175 rfl rfl ?_
  refine V.iconst (v := nI 0) (by decide) dX8_begin_10 ?_
  refine V.istore_n (ls' := [(0, .ref mM), (1, .int (nI 0))]) dX8_begin_11 (by decide) rfl ?_
  refine V.hpe (A' := (upA (upA A m_left (A m_left)) m_slots (A m_slots))) rfl (by rw [upA_i, upA_i]) ?_
  refine ml_begin1 (upI (upI I mM 18 (nI 0)) mM 19 (nI 0)) A 64 0 _ _ (by omega) ?_
  refine V.iconst (v := nI 0) (by decide) dX8_begin_43 ?_
  refine V.istore_n (ls' := [(0, .ref mM), (1, .int (nI 0))]) dX8_begin_44 (by decide) rfl ?_
  refine V.hpe (A' := (upA (upA (upA A m_left (mz_cpf (A m_memory) 64 0 (A m_left))) m_slots (mz_fill 64 0 (A m_slots))) m_held (A m_held))) rfl (upA_ii (A := (upA (upA A m_left (mz_cpf (A m_memory) 64 0 (A m_left))) m_slots (mz_fill 64 0 (A m_slots)))) (a := m_held) rfl).symm ?_
  refine ml_begin2 (upI (upI I mM 18 (nI 0)) mM 19 (nI 0)) (upA (upA A m_left (mz_cpf (A m_memory) 64 0 (A m_left))) m_slots (mz_fill 64 0 (A m_slots))) 32 0 _ (by omega) ?_
  refine V.iconst (v := nI 0) (by decide) dX8_begin_64 ?_
  refine V.istore_n (ls' := [(0, .ref mM), (1, .int (nI 0))]) dX8_begin_65 (by decide) rfl ?_
  refine V.hpe (A' := (upA (upA (upA (upA A m_left (mz_cpf (A m_memory) 64 0 (A m_left))) m_slots (mz_fill 64 0 (A m_slots))) m_held (mz_fill 32 0 (A m_held))) m_now (A m_now))) rfl (upA_ii (A := (upA (upA (upA A m_left (mz_cpf (A m_memory) 64 0 (A m_left))) m_slots (mz_fill 64 0 (A m_slots))) m_held (mz_fill 32 0 (A m_held)))) (a := m_now) rfl).symm ?_
  refine ml_begin3 (upI (upI I mM 18 (nI 0)) mM 19 (nI 0)) (upA (upA (upA A m_left (mz_cpf (A m_memory) 64 0 (A m_left))) m_slots (mz_fill 64 0 (A m_slots))) m_held (mz_fill 32 0 (A m_held))) 24 0 _ (by omega) ?_
  refine V.rv dX8_begin_85 rfl ?_
  exact ⟨rfl, rfl, rfl⟩
def mz_sy (t : Nat) (sd : Nat → Int32) (v : Int32) : Nat → Int32 := if t < 50 then upd sd t v else sd
def mz_cl (x : Int32) : Nat := x.toBitVec.toNat % 64
theorem mz_cl_lt (x : Int32) : mz_cl x < 64 := Nat.mod_lt _ (by decide)
theorem mz_cl_e (x : Int32) : x &&& nI 63 = nI (mz_cl x) := pk_and x 6 (by decide)
def mz_rk (o a b : Int32) : Int32 := if o = 2 then a + b else if o = 3 then a - b else a * b
def mz_DA (A : Nat → Nat → Int32) (nw l sd : Nat → Int32) : Nat → Nat → Int32 := upA (upA (upA A m_now nw) m_left l) m_said sd
theorem mz_DA_n {A : Nat → Nat → Int32} {nw : Nat → Int32} : mz_DA A nw (A m_left) (A m_said) = upA A m_now nw := by
  unfold mz_DA
  rw [upA_ii (A := upA A m_now nw) (a := m_left) (f := A m_left) rfl, upA_ii (A := upA A m_now nw) (a := m_said) (f := A m_said) rfl]
theorem mz_DA_l {A : Nat → Nat → Int32} {l : Nat → Int32} : mz_DA A (A m_now) l (A m_said) = upA A m_left l := by
  unfold mz_DA
  rw [upA_i, upA_ii (A := upA A m_left l) (a := m_said) (f := A m_said) rfl]
theorem mz_DA_s {A : Nat → Nat → Int32} {sd : Nat → Int32} : mz_DA A (A m_now) (A m_left) sd = upA A m_said sd := by
  unfold mz_DA
  rw [upA_i, upA_i]
theorem mz_DA_i {A : Nat → Nat → Int32} : mz_DA A (A m_now) (A m_left) (A m_said) = A := by
  unfold mz_DA
  rw [upA_i, upA_i, upA_i]
set_option maxRecDepth 100000 in
set_option maxHeartbeats 4000000 in
theorem md_say {G : am_G} (I A : Nat → Nat → Int32) (t : Nat) (ht : I mM 19 = nI t) (ht2 : t < 4000) (v : Int32) : Cm G MX8_say 0 0 [.ref mM, .int v] I A (fun r I' A' => r = none ∧ upI I mM 19 (nI (t + 1)) = I' ∧ upA A m_said (mz_sy t (A m_said) v) = A') := by
  refine Cm.of (by decide) (Nat.le_of_ble_eq_true rfl) rfl ?_
  show V G MX8_say (am_R 0 0 0 0) _ 0 0 0 [(0, .ref mM), (1, .int v)] [] (hp I A)
  refine V.aload_n (j := 0) rfl dX8_say_0 ?_
  refine V.geti (v := nI t) dX8_say_1 fX8_175 rfl rfl ht ?_
  refine V.bipush (v := nI 50) (by decide) dX8_say_4 ?_
  refine V.icmp_geN (tgt := 19) dX8_say_6 (by decide) (by omega) (by omega) (fun c1 => ?_) (fun c1 => ?_)
  · refine V.aload_n (j := 0) rfl dX8_say_19 ?_
    refine V.dup rfl dX8_say_20 ?_
    refine V.geti (v := nI t) dX8_say_21 fX8_175 rfl rfl ht ?_
    refine V.iconst (v := nI 1) (by decide) dX8_say_24 ?_
    refine V.iaddN dX8_say_25 ?_
    refine V.puti dX8_say_26 pX8_175 rfl rfl ?_
    refine V.rv dX8_say_29 rfl ?_
    exact ⟨rfl, rfl, by rw [show mz_sy t (A m_said) v = A m_said from if_neg (by omega), upA_i]⟩
  · refine V.aload_n (j := 0) rfl dX8_say_9 ?_
    refine V.getr (q := m_said) dX8_say_10 fX8_58 rfl rfl ?_
    refine V.aload_n (j := 0) rfl dX8_say_13 ?_
    refine V.geti (v := nI t) dX8_say_14 fX8_175 rfl rfl ht ?_
    refine V.iload_n (j := 1) rfl dX8_say_17 ?_
    refine V.sta (g := upd (A m_said) t (v)) dX8_say_18 rfl (by omega) (by decide) rfl ?_
    refine V.aload_n (j := 0) rfl dX8_say_19 ?_
    refine V.dup rfl dX8_say_20 ?_
    refine V.geti (v := nI t) dX8_say_21 fX8_175 rfl rfl ht ?_
    refine V.iconst (v := nI 1) (by decide) dX8_say_24 ?_
    refine V.iaddN dX8_say_25 ?_
    refine V.puti dX8_say_26 pX8_175 rfl rfl ?_
    refine V.rv dX8_say_29 rfl ?_
    exact ⟨rfl, rfl, by rw [show mz_sy t (A m_said) v = upd (A m_said) t v from if_pos (by omega)]⟩
set_option maxRecDepth 100000 in
set_option maxHeartbeats 4000000 in
theorem md_doStep0 {G : am_G} (I A : Nat → Nat → Int32) (s : Nat) (hs : s < 60) (t : Nat) (ht : I mM 19 = nI t) (ht2 : t < 4000) (ek : A m_ops s = nI 0) (a : Nat) (ha : a < 24) (ea : A m_first s = nI a) : Cm G MX8_doStep 1 22 [.ref mM, .int (nI s)] I A (fun r I' A' => r = some (.int (nI (s + 1))) ∧ upI I mM 19 (nI (t)) = I' ∧ mz_DA A (upd (A m_now) a (A m_second s)) ((A m_left)) ((A m_said)) = A') := by
  refine Cm.of (by decide) (Nat.le_of_ble_eq_true rfl) rfl ?_
  show V G MX8_doStep (am_R 1 22 0 0) _ 0 0 0 [(0, .ref mM), (1, .int (nI s))] [] (hp I A)
  refine V.aload_n (j := 0) rfl dX8_doStep_0 ?_
  refine V.getr (q := m_first) dX8_doStep_1 fX8_16 rfl rfl ?_
  refine V.iload_n (j := 1) rfl dX8_doStep_4 ?_
  refine V.lda (v := nI a) dX8_doStep_5 rfl (by omega) (by decide) ea ?_
  refine V.istore_n (ls' := [(0, .ref mM), (1, .int (nI s)), (2, .int (nI a))]) dX8_doStep_6 (by decide) rfl ?_
  refine V.aload_n (j := 0) rfl dX8_doStep_7 ?_
  refine V.getr (q := m_second) dX8_doStep_8 fX8_19 rfl rfl ?_
  refine V.iload_n (j := 1) rfl dX8_doStep_11 ?_
  refine V.lda (v := A m_second s) dX8_doStep_12 rfl (by omega) (by decide) rfl ?_
  refine V.istore_n (ls' := [(0, .ref mM), (1, .int (nI s)), (2, .int (nI a)), (3, .int (A m_second s))]) dX8_doStep_13 (by decide) rfl ?_
  refine V.aload_n (j := 0) rfl dX8_doStep_14 ?_
  refine V.getr (q := m_third) dX8_doStep_15 fX8_22 rfl rfl ?_
  refine V.iload_n (j := 1) rfl dX8_doStep_18 ?_
  refine V.lda (v := A m_third s) dX8_doStep_19 rfl (by omega) (by decide) rfl ?_
  refine V.istore (ls' := [(0, .ref mM), (1, .int (nI s)), (2, .int (nI a)), (3, .int (A m_second s)), (4, .int (A m_third s))]) dX8_doStep_20 (by decide) rfl ?_
  refine V.aload_n (j := 0) rfl dX8_doStep_22 ?_
  refine V.getr (q := m_ops) dX8_doStep_23 fX8_13 rfl rfl ?_
  refine V.iload_n (j := 1) rfl dX8_doStep_26 ?_
  refine V.lda (v := nI 0) dX8_doStep_27 rfl (by omega) (by decide) ek ?_
  refine V.tableIn (tgt := 84) dX8_doStep_28 (by decide) (by decide) rfl (by decide) ?_
  refine V.aload_n (j := 0) rfl dX8_doStep_84 ?_
  refine V.getr (q := m_now) dX8_doStep_85 fX8_70 rfl rfl ?_
  refine V.iload_n (j := 2) rfl dX8_doStep_88 ?_
  refine V.iload_n (j := 3) rfl dX8_doStep_89 ?_
  refine V.sta (g := upd (A m_now) a (A m_second s)) dX8_doStep_90 rfl (by omega) (by decide) rfl ?_
  refine V.goto (tgt := 234) dX8_doStep_91 (by decide) ?_
  refine V.iload_n (j := 1) rfl dX8_doStep_234 ?_
  refine V.iconst (v := nI 1) (by decide) dX8_doStep_235 ?_
  refine V.iaddN dX8_doStep_236 ?_
  refine V.ri dX8_doStep_237 rfl ?_
  exact ⟨rfl, by rw [← ht, upI_i], mz_DA_n⟩
set_option maxRecDepth 100000 in
set_option maxHeartbeats 4000000 in
theorem md_doStep1 {G : am_G} (I A : Nat → Nat → Int32) (s : Nat) (hs : s < 60) (t : Nat) (ht : I mM 19 = nI t) (ht2 : t < 4000) (ek : A m_ops s = nI 1) (a : Nat) (ha : a < 24) (ea : A m_first s = nI a) (b : Nat) (hb : b < 24) (eb : A m_second s = nI b) : Cm G MX8_doStep 1 22 [.ref mM, .int (nI s)] I A (fun r I' A' => r = some (.int (nI (s + 1))) ∧ upI I mM 19 (nI (t)) = I' ∧ mz_DA A (upd (A m_now) a ((A m_now) b)) ((A m_left)) ((A m_said)) = A') := by
  refine Cm.of (by decide) (Nat.le_of_ble_eq_true rfl) rfl ?_
  show V G MX8_doStep (am_R 1 22 0 0) _ 0 0 0 [(0, .ref mM), (1, .int (nI s))] [] (hp I A)
  refine V.aload_n (j := 0) rfl dX8_doStep_0 ?_
  refine V.getr (q := m_first) dX8_doStep_1 fX8_16 rfl rfl ?_
  refine V.iload_n (j := 1) rfl dX8_doStep_4 ?_
  refine V.lda (v := nI a) dX8_doStep_5 rfl (by omega) (by decide) ea ?_
  refine V.istore_n (ls' := [(0, .ref mM), (1, .int (nI s)), (2, .int (nI a))]) dX8_doStep_6 (by decide) rfl ?_
  refine V.aload_n (j := 0) rfl dX8_doStep_7 ?_
  refine V.getr (q := m_second) dX8_doStep_8 fX8_19 rfl rfl ?_
  refine V.iload_n (j := 1) rfl dX8_doStep_11 ?_
  refine V.lda (v := nI b) dX8_doStep_12 rfl (by omega) (by decide) eb ?_
  refine V.istore_n (ls' := [(0, .ref mM), (1, .int (nI s)), (2, .int (nI a)), (3, .int (nI b))]) dX8_doStep_13 (by decide) rfl ?_
  refine V.aload_n (j := 0) rfl dX8_doStep_14 ?_
  refine V.getr (q := m_third) dX8_doStep_15 fX8_22 rfl rfl ?_
  refine V.iload_n (j := 1) rfl dX8_doStep_18 ?_
  refine V.lda (v := A m_third s) dX8_doStep_19 rfl (by omega) (by decide) rfl ?_
  refine V.istore (ls' := [(0, .ref mM), (1, .int (nI s)), (2, .int (nI a)), (3, .int (nI b)), (4, .int (A m_third s))]) dX8_doStep_20 (by decide) rfl ?_
  refine V.aload_n (j := 0) rfl dX8_doStep_22 ?_
  refine V.getr (q := m_ops) dX8_doStep_23 fX8_13 rfl rfl ?_
  refine V.iload_n (j := 1) rfl dX8_doStep_26 ?_
  refine V.lda (v := nI 1) dX8_doStep_27 rfl (by omega) (by decide) ek ?_
  refine V.tableIn (tgt := 94) dX8_doStep_28 (by decide) (by decide) rfl (by decide) ?_
  refine V.aload_n (j := 0) rfl dX8_doStep_94 ?_
  refine V.getr (q := m_now) dX8_doStep_95 fX8_70 rfl rfl ?_
  refine V.iload_n (j := 2) rfl dX8_doStep_98 ?_
  refine V.aload_n (j := 0) rfl dX8_doStep_99 ?_
  refine V.getr (q := m_now) dX8_doStep_100 fX8_70 rfl rfl ?_
  refine V.iload_n (j := 3) rfl dX8_doStep_103 ?_
  refine V.lda (v := A m_now b) dX8_doStep_104 rfl (by omega) (by decide) rfl ?_
  refine V.sta (g := upd (A m_now) a (A m_now b)) dX8_doStep_105 rfl (by omega) (by decide) rfl ?_
  refine V.goto (tgt := 234) dX8_doStep_106 (by decide) ?_
  refine V.iload_n (j := 1) rfl dX8_doStep_234 ?_
  refine V.iconst (v := nI 1) (by decide) dX8_doStep_235 ?_
  refine V.iaddN dX8_doStep_236 ?_
  refine V.ri dX8_doStep_237 rfl ?_
  exact ⟨rfl, by rw [← ht, upI_i], mz_DA_n⟩
set_option maxRecDepth 100000 in
set_option maxHeartbeats 4000000 in
theorem md_doStep2 {G : am_G} (I A : Nat → Nat → Int32) (s : Nat) (hs : s < 60) (t : Nat) (ht : I mM 19 = nI t) (ht2 : t < 4000) (ek : A m_ops s = nI 2) (a : Nat) (ha : a < 24) (ea : A m_first s = nI a) (b : Nat) (hb : b < 24) (eb : A m_second s = nI b) (c : Nat) (hc : c < 24) (ec : A m_third s = nI c) : Cm G MX8_doStep 1 22 [.ref mM, .int (nI s)] I A (fun r I' A' => r = some (.int (nI (s + 1))) ∧ upI I mM 19 (nI (t)) = I' ∧ mz_DA A (upd (A m_now) a (mz_rk (nI 2) ((A m_now) b) ((A m_now) c))) ((A m_left)) ((A m_said)) = A') := by
  refine Cm.of (by decide) (Nat.le_of_ble_eq_true rfl) rfl ?_
  show V G MX8_doStep (am_R 1 22 0 0) _ 0 0 0 [(0, .ref mM), (1, .int (nI s))] [] (hp I A)
  refine V.aload_n (j := 0) rfl dX8_doStep_0 ?_
  refine V.getr (q := m_first) dX8_doStep_1 fX8_16 rfl rfl ?_
  refine V.iload_n (j := 1) rfl dX8_doStep_4 ?_
  refine V.lda (v := nI a) dX8_doStep_5 rfl (by omega) (by decide) ea ?_
  refine V.istore_n (ls' := [(0, .ref mM), (1, .int (nI s)), (2, .int (nI a))]) dX8_doStep_6 (by decide) rfl ?_
  refine V.aload_n (j := 0) rfl dX8_doStep_7 ?_
  refine V.getr (q := m_second) dX8_doStep_8 fX8_19 rfl rfl ?_
  refine V.iload_n (j := 1) rfl dX8_doStep_11 ?_
  refine V.lda (v := nI b) dX8_doStep_12 rfl (by omega) (by decide) eb ?_
  refine V.istore_n (ls' := [(0, .ref mM), (1, .int (nI s)), (2, .int (nI a)), (3, .int (nI b))]) dX8_doStep_13 (by decide) rfl ?_
  refine V.aload_n (j := 0) rfl dX8_doStep_14 ?_
  refine V.getr (q := m_third) dX8_doStep_15 fX8_22 rfl rfl ?_
  refine V.iload_n (j := 1) rfl dX8_doStep_18 ?_
  refine V.lda (v := nI c) dX8_doStep_19 rfl (by omega) (by decide) ec ?_
  refine V.istore (ls' := [(0, .ref mM), (1, .int (nI s)), (2, .int (nI a)), (3, .int (nI b)), (4, .int (nI c))]) dX8_doStep_20 (by decide) rfl ?_
  refine V.aload_n (j := 0) rfl dX8_doStep_22 ?_
  refine V.getr (q := m_ops) dX8_doStep_23 fX8_13 rfl rfl ?_
  refine V.iload_n (j := 1) rfl dX8_doStep_26 ?_
  refine V.lda (v := nI 2) dX8_doStep_27 rfl (by omega) (by decide) ek ?_
  refine V.tableIn (tgt := 109) dX8_doStep_28 (by decide) (by decide) rfl (by decide) ?_
  refine V.aload_n (j := 0) rfl dX8_doStep_109 ?_
  refine V.getr (q := m_now) dX8_doStep_110 fX8_70 rfl rfl ?_
  refine V.iload_n (j := 2) rfl dX8_doStep_113 ?_
  refine V.aload_n (j := 0) rfl dX8_doStep_114 ?_
  refine V.getr (q := m_ops) dX8_doStep_115 fX8_13 rfl rfl ?_
  refine V.iload_n (j := 1) rfl dX8_doStep_118 ?_
  refine V.lda (v := nI 2) dX8_doStep_119 rfl (by omega) (by decide) ek ?_
  refine V.aload_n (j := 0) rfl dX8_doStep_120 ?_
  refine V.getr (q := m_now) dX8_doStep_121 fX8_70 rfl rfl ?_
  refine V.iload_n (j := 3) rfl dX8_doStep_124 ?_
  refine V.lda (v := A m_now b) dX8_doStep_125 rfl (by omega) (by decide) rfl ?_
  refine V.aload_n (j := 0) rfl dX8_doStep_126 ?_
  refine V.getr (q := m_now) dX8_doStep_127 fX8_70 rfl rfl ?_
  refine V.iload (j := 4) rfl dX8_doStep_130 ?_
  refine V.lda (v := A m_now c) dX8_doStep_132 rfl (by omega) (by decide) rfl ?_
  refine V.cS (As := [.int (nI 2), .int (A m_now b), .int (A m_now c)]) (st := [.int (nI a), .ref m_now]) dX8_doStep_133 sX8_178 zX8_reckoned (md_reckoned I A _ _ _) ⟨by decide, by decide⟩ (Nat.le_of_ble_eq_true rfl) rfl (fun r I' A' hq => ?_)
  obtain ⟨rfl, rfl, rfl⟩ := hq
  refine V.st (st' := [.int (mz_rk (nI 2) (A m_now b) (A m_now c)), .int (nI a), .ref m_now]) rfl ?_
  refine V.sta (g := upd (A m_now) a (mz_rk (nI 2) (A m_now b) (A m_now c))) dX8_doStep_136 rfl (by omega) (by decide) rfl ?_
  refine V.goto (tgt := 234) dX8_doStep_137 (by decide) ?_
  refine V.iload_n (j := 1) rfl dX8_doStep_234 ?_
  refine V.iconst (v := nI 1) (by decide) dX8_doStep_235 ?_
  refine V.iaddN dX8_doStep_236 ?_
  refine V.ri dX8_doStep_237 rfl ?_
  exact ⟨rfl, by rw [← ht, upI_i], mz_DA_n⟩
set_option maxRecDepth 100000 in
set_option maxHeartbeats 4000000 in
theorem md_doStep3 {G : am_G} (I A : Nat → Nat → Int32) (s : Nat) (hs : s < 60) (t : Nat) (ht : I mM 19 = nI t) (ht2 : t < 4000) (ek : A m_ops s = nI 3) (a : Nat) (ha : a < 24) (ea : A m_first s = nI a) (b : Nat) (hb : b < 24) (eb : A m_second s = nI b) (c : Nat) (hc : c < 24) (ec : A m_third s = nI c) : Cm G MX8_doStep 1 22 [.ref mM, .int (nI s)] I A (fun r I' A' => r = some (.int (nI (s + 1))) ∧ upI I mM 19 (nI (t)) = I' ∧ mz_DA A (upd (A m_now) a (mz_rk (nI 3) ((A m_now) b) ((A m_now) c))) ((A m_left)) ((A m_said)) = A') := by
  refine Cm.of (by decide) (Nat.le_of_ble_eq_true rfl) rfl ?_
  show V G MX8_doStep (am_R 1 22 0 0) _ 0 0 0 [(0, .ref mM), (1, .int (nI s))] [] (hp I A)
  refine V.aload_n (j := 0) rfl dX8_doStep_0 ?_
  refine V.getr (q := m_first) dX8_doStep_1 fX8_16 rfl rfl ?_
  refine V.iload_n (j := 1) rfl dX8_doStep_4 ?_
  refine V.lda (v := nI a) dX8_doStep_5 rfl (by omega) (by decide) ea ?_
  refine V.istore_n (ls' := [(0, .ref mM), (1, .int (nI s)), (2, .int (nI a))]) dX8_doStep_6 (by decide) rfl ?_
  refine V.aload_n (j := 0) rfl dX8_doStep_7 ?_
  refine V.getr (q := m_second) dX8_doStep_8 fX8_19 rfl rfl ?_
  refine V.iload_n (j := 1) rfl dX8_doStep_11 ?_
  refine V.lda (v := nI b) dX8_doStep_12 rfl (by omega) (by decide) eb ?_
  refine V.istore_n (ls' := [(0, .ref mM), (1, .int (nI s)), (2, .int (nI a)), (3, .int (nI b))]) dX8_doStep_13 (by decide) rfl ?_
  refine V.aload_n (j := 0) rfl dX8_doStep_14 ?_
  refine V.getr (q := m_third) dX8_doStep_15 fX8_22 rfl rfl ?_
  refine V.iload_n (j := 1) rfl dX8_doStep_18 ?_
  refine V.lda (v := nI c) dX8_doStep_19 rfl (by omega) (by decide) ec ?_
  refine V.istore (ls' := [(0, .ref mM), (1, .int (nI s)), (2, .int (nI a)), (3, .int (nI b)), (4, .int (nI c))]) dX8_doStep_20 (by decide) rfl ?_
  refine V.aload_n (j := 0) rfl dX8_doStep_22 ?_
  refine V.getr (q := m_ops) dX8_doStep_23 fX8_13 rfl rfl ?_
  refine V.iload_n (j := 1) rfl dX8_doStep_26 ?_
  refine V.lda (v := nI 3) dX8_doStep_27 rfl (by omega) (by decide) ek ?_
  refine V.tableIn (tgt := 109) dX8_doStep_28 (by decide) (by decide) rfl (by decide) ?_
  refine V.aload_n (j := 0) rfl dX8_doStep_109 ?_
  refine V.getr (q := m_now) dX8_doStep_110 fX8_70 rfl rfl ?_
  refine V.iload_n (j := 2) rfl dX8_doStep_113 ?_
  refine V.aload_n (j := 0) rfl dX8_doStep_114 ?_
  refine V.getr (q := m_ops) dX8_doStep_115 fX8_13 rfl rfl ?_
  refine V.iload_n (j := 1) rfl dX8_doStep_118 ?_
  refine V.lda (v := nI 3) dX8_doStep_119 rfl (by omega) (by decide) ek ?_
  refine V.aload_n (j := 0) rfl dX8_doStep_120 ?_
  refine V.getr (q := m_now) dX8_doStep_121 fX8_70 rfl rfl ?_
  refine V.iload_n (j := 3) rfl dX8_doStep_124 ?_
  refine V.lda (v := A m_now b) dX8_doStep_125 rfl (by omega) (by decide) rfl ?_
  refine V.aload_n (j := 0) rfl dX8_doStep_126 ?_
  refine V.getr (q := m_now) dX8_doStep_127 fX8_70 rfl rfl ?_
  refine V.iload (j := 4) rfl dX8_doStep_130 ?_
  refine V.lda (v := A m_now c) dX8_doStep_132 rfl (by omega) (by decide) rfl ?_
  refine V.cS (As := [.int (nI 3), .int (A m_now b), .int (A m_now c)]) (st := [.int (nI a), .ref m_now]) dX8_doStep_133 sX8_178 zX8_reckoned (md_reckoned I A _ _ _) ⟨by decide, by decide⟩ (Nat.le_of_ble_eq_true rfl) rfl (fun r I' A' hq => ?_)
  obtain ⟨rfl, rfl, rfl⟩ := hq
  refine V.st (st' := [.int (mz_rk (nI 3) (A m_now b) (A m_now c)), .int (nI a), .ref m_now]) rfl ?_
  refine V.sta (g := upd (A m_now) a (mz_rk (nI 3) (A m_now b) (A m_now c))) dX8_doStep_136 rfl (by omega) (by decide) rfl ?_
  refine V.goto (tgt := 234) dX8_doStep_137 (by decide) ?_
  refine V.iload_n (j := 1) rfl dX8_doStep_234 ?_
  refine V.iconst (v := nI 1) (by decide) dX8_doStep_235 ?_
  refine V.iaddN dX8_doStep_236 ?_
  refine V.ri dX8_doStep_237 rfl ?_
  exact ⟨rfl, by rw [← ht, upI_i], mz_DA_n⟩
set_option maxRecDepth 100000 in
set_option maxHeartbeats 4000000 in
theorem md_doStep4 {G : am_G} (I A : Nat → Nat → Int32) (s : Nat) (hs : s < 60) (t : Nat) (ht : I mM 19 = nI t) (ht2 : t < 4000) (ek : A m_ops s = nI 4) (a : Nat) (ha : a < 24) (ea : A m_first s = nI a) (b : Nat) (hb : b < 24) (eb : A m_second s = nI b) (c : Nat) (hc : c < 24) (ec : A m_third s = nI c) : Cm G MX8_doStep 1 22 [.ref mM, .int (nI s)] I A (fun r I' A' => r = some (.int (nI (s + 1))) ∧ upI I mM 19 (nI (t)) = I' ∧ mz_DA A (upd (A m_now) a (mz_rk (nI 4) ((A m_now) b) ((A m_now) c))) ((A m_left)) ((A m_said)) = A') := by
  refine Cm.of (by decide) (Nat.le_of_ble_eq_true rfl) rfl ?_
  show V G MX8_doStep (am_R 1 22 0 0) _ 0 0 0 [(0, .ref mM), (1, .int (nI s))] [] (hp I A)
  refine V.aload_n (j := 0) rfl dX8_doStep_0 ?_
  refine V.getr (q := m_first) dX8_doStep_1 fX8_16 rfl rfl ?_
  refine V.iload_n (j := 1) rfl dX8_doStep_4 ?_
  refine V.lda (v := nI a) dX8_doStep_5 rfl (by omega) (by decide) ea ?_
  refine V.istore_n (ls' := [(0, .ref mM), (1, .int (nI s)), (2, .int (nI a))]) dX8_doStep_6 (by decide) rfl ?_
  refine V.aload_n (j := 0) rfl dX8_doStep_7 ?_
  refine V.getr (q := m_second) dX8_doStep_8 fX8_19 rfl rfl ?_
  refine V.iload_n (j := 1) rfl dX8_doStep_11 ?_
  refine V.lda (v := nI b) dX8_doStep_12 rfl (by omega) (by decide) eb ?_
  refine V.istore_n (ls' := [(0, .ref mM), (1, .int (nI s)), (2, .int (nI a)), (3, .int (nI b))]) dX8_doStep_13 (by decide) rfl ?_
  refine V.aload_n (j := 0) rfl dX8_doStep_14 ?_
  refine V.getr (q := m_third) dX8_doStep_15 fX8_22 rfl rfl ?_
  refine V.iload_n (j := 1) rfl dX8_doStep_18 ?_
  refine V.lda (v := nI c) dX8_doStep_19 rfl (by omega) (by decide) ec ?_
  refine V.istore (ls' := [(0, .ref mM), (1, .int (nI s)), (2, .int (nI a)), (3, .int (nI b)), (4, .int (nI c))]) dX8_doStep_20 (by decide) rfl ?_
  refine V.aload_n (j := 0) rfl dX8_doStep_22 ?_
  refine V.getr (q := m_ops) dX8_doStep_23 fX8_13 rfl rfl ?_
  refine V.iload_n (j := 1) rfl dX8_doStep_26 ?_
  refine V.lda (v := nI 4) dX8_doStep_27 rfl (by omega) (by decide) ek ?_
  refine V.tableIn (tgt := 109) dX8_doStep_28 (by decide) (by decide) rfl (by decide) ?_
  refine V.aload_n (j := 0) rfl dX8_doStep_109 ?_
  refine V.getr (q := m_now) dX8_doStep_110 fX8_70 rfl rfl ?_
  refine V.iload_n (j := 2) rfl dX8_doStep_113 ?_
  refine V.aload_n (j := 0) rfl dX8_doStep_114 ?_
  refine V.getr (q := m_ops) dX8_doStep_115 fX8_13 rfl rfl ?_
  refine V.iload_n (j := 1) rfl dX8_doStep_118 ?_
  refine V.lda (v := nI 4) dX8_doStep_119 rfl (by omega) (by decide) ek ?_
  refine V.aload_n (j := 0) rfl dX8_doStep_120 ?_
  refine V.getr (q := m_now) dX8_doStep_121 fX8_70 rfl rfl ?_
  refine V.iload_n (j := 3) rfl dX8_doStep_124 ?_
  refine V.lda (v := A m_now b) dX8_doStep_125 rfl (by omega) (by decide) rfl ?_
  refine V.aload_n (j := 0) rfl dX8_doStep_126 ?_
  refine V.getr (q := m_now) dX8_doStep_127 fX8_70 rfl rfl ?_
  refine V.iload (j := 4) rfl dX8_doStep_130 ?_
  refine V.lda (v := A m_now c) dX8_doStep_132 rfl (by omega) (by decide) rfl ?_
  refine V.cS (As := [.int (nI 4), .int (A m_now b), .int (A m_now c)]) (st := [.int (nI a), .ref m_now]) dX8_doStep_133 sX8_178 zX8_reckoned (md_reckoned I A _ _ _) ⟨by decide, by decide⟩ (Nat.le_of_ble_eq_true rfl) rfl (fun r I' A' hq => ?_)
  obtain ⟨rfl, rfl, rfl⟩ := hq
  refine V.st (st' := [.int (mz_rk (nI 4) (A m_now b) (A m_now c)), .int (nI a), .ref m_now]) rfl ?_
  refine V.sta (g := upd (A m_now) a (mz_rk (nI 4) (A m_now b) (A m_now c))) dX8_doStep_136 rfl (by omega) (by decide) rfl ?_
  refine V.goto (tgt := 234) dX8_doStep_137 (by decide) ?_
  refine V.iload_n (j := 1) rfl dX8_doStep_234 ?_
  refine V.iconst (v := nI 1) (by decide) dX8_doStep_235 ?_
  refine V.iaddN dX8_doStep_236 ?_
  refine V.ri dX8_doStep_237 rfl ?_
  exact ⟨rfl, by rw [← ht, upI_i], mz_DA_n⟩
set_option maxRecDepth 100000 in
set_option maxHeartbeats 4000000 in
theorem md_doStep5 {G : am_G} (I A : Nat → Nat → Int32) (s : Nat) (hs : s < 60) (t : Nat) (ht : I mM 19 = nI t) (ht2 : t < 4000) (ek : A m_ops s = nI 5) (a : Nat) (ha : a < 24) (ea : A m_first s = nI a) (b : Nat) (hb : b < 24) (eb : A m_second s = nI b) (c : Nat) (hc : c < 64) (ec : A m_third s = nI c) : Cm G MX8_doStep 1 22 [.ref mM, .int (nI s)] I A (fun r I' A' => r = some (.int (nI (s + 1))) ∧ upI I mM 19 (nI (t)) = I' ∧ mz_DA A (upd (A m_now) a ((A m_left) (mz_cl ((A m_now) b + nI c)))) ((A m_left)) ((A m_said)) = A') := by
  refine Cm.of (by decide) (Nat.le_of_ble_eq_true rfl) rfl ?_
  show V G MX8_doStep (am_R 1 22 0 0) _ 0 0 0 [(0, .ref mM), (1, .int (nI s))] [] (hp I A)
  refine V.aload_n (j := 0) rfl dX8_doStep_0 ?_
  refine V.getr (q := m_first) dX8_doStep_1 fX8_16 rfl rfl ?_
  refine V.iload_n (j := 1) rfl dX8_doStep_4 ?_
  refine V.lda (v := nI a) dX8_doStep_5 rfl (by omega) (by decide) ea ?_
  refine V.istore_n (ls' := [(0, .ref mM), (1, .int (nI s)), (2, .int (nI a))]) dX8_doStep_6 (by decide) rfl ?_
  refine V.aload_n (j := 0) rfl dX8_doStep_7 ?_
  refine V.getr (q := m_second) dX8_doStep_8 fX8_19 rfl rfl ?_
  refine V.iload_n (j := 1) rfl dX8_doStep_11 ?_
  refine V.lda (v := nI b) dX8_doStep_12 rfl (by omega) (by decide) eb ?_
  refine V.istore_n (ls' := [(0, .ref mM), (1, .int (nI s)), (2, .int (nI a)), (3, .int (nI b))]) dX8_doStep_13 (by decide) rfl ?_
  refine V.aload_n (j := 0) rfl dX8_doStep_14 ?_
  refine V.getr (q := m_third) dX8_doStep_15 fX8_22 rfl rfl ?_
  refine V.iload_n (j := 1) rfl dX8_doStep_18 ?_
  refine V.lda (v := nI c) dX8_doStep_19 rfl (by omega) (by decide) ec ?_
  refine V.istore (ls' := [(0, .ref mM), (1, .int (nI s)), (2, .int (nI a)), (3, .int (nI b)), (4, .int (nI c))]) dX8_doStep_20 (by decide) rfl ?_
  refine V.aload_n (j := 0) rfl dX8_doStep_22 ?_
  refine V.getr (q := m_ops) dX8_doStep_23 fX8_13 rfl rfl ?_
  refine V.iload_n (j := 1) rfl dX8_doStep_26 ?_
  refine V.lda (v := nI 5) dX8_doStep_27 rfl (by omega) (by decide) ek ?_
  refine V.tableIn (tgt := 140) dX8_doStep_28 (by decide) (by decide) rfl (by decide) ?_
  refine V.aload_n (j := 0) rfl dX8_doStep_140 ?_
  refine V.getr (q := m_now) dX8_doStep_141 fX8_70 rfl rfl ?_
  refine V.iload_n (j := 2) rfl dX8_doStep_144 ?_
  refine V.aload_n (j := 0) rfl dX8_doStep_145 ?_
  refine V.getr (q := m_left) dX8_doStep_146 fX8_61 rfl rfl ?_
  refine V.aload_n (j := 0) rfl dX8_doStep_149 ?_
  refine V.getr (q := m_now) dX8_doStep_150 fX8_70 rfl rfl ?_
  refine V.iload_n (j := 3) rfl dX8_doStep_153 ?_
  refine V.lda (v := A m_now b) dX8_doStep_154 rfl (by omega) (by decide) rfl ?_
  refine V.iload (j := 4) rfl dX8_doStep_155 ?_
  refine V.iadd dX8_doStep_157 ?_
  refine V.bipush (v := nI 63) (by decide) dX8_doStep_158 ?_
  refine V.iand dX8_doStep_160 ?_
  have hcl := mz_cl_lt (((A m_now b) + (nI c)))
  refine V.st (st' := [.int (nI (mz_cl (((A m_now b) + (nI c))))), .ref m_left, .int (nI a), .ref m_now]) (by rw [mz_cl_e]) ?_
  refine V.lda (v := A m_left (mz_cl (((A m_now b) + (nI c))))) dX8_doStep_161 rfl (by omega) (by decide) rfl ?_
  refine V.sta (g := upd (A m_now) a (A m_left (mz_cl (((A m_now b) + (nI c)))))) dX8_doStep_162 rfl (by omega) (by decide) rfl ?_
  refine V.goto (tgt := 234) dX8_doStep_163 (by decide) ?_
  refine V.iload_n (j := 1) rfl dX8_doStep_234 ?_
  refine V.iconst (v := nI 1) (by decide) dX8_doStep_235 ?_
  refine V.iaddN dX8_doStep_236 ?_
  refine V.ri dX8_doStep_237 rfl ?_
  exact ⟨rfl, by rw [← ht, upI_i], mz_DA_n⟩
set_option maxRecDepth 100000 in
set_option maxHeartbeats 4000000 in
theorem md_doStep6 {G : am_G} (I A : Nat → Nat → Int32) (s : Nat) (hs : s < 60) (t : Nat) (ht : I mM 19 = nI t) (ht2 : t < 4000) (ek : A m_ops s = nI 6) (a : Nat) (ha : a < 24) (ea : A m_first s = nI a) (b : Nat) (hb : b < 24) (eb : A m_second s = nI b) (c : Nat) (hc : c < 64) (ec : A m_third s = nI c) : Cm G MX8_doStep 1 22 [.ref mM, .int (nI s)] I A (fun r I' A' => r = some (.int (nI (s + 1))) ∧ upI I mM 19 (nI (t)) = I' ∧ mz_DA A ((A m_now)) (upd (A m_left) (mz_cl ((A m_now) b + nI c)) ((A m_now) a)) ((A m_said)) = A') := by
  refine Cm.of (by decide) (Nat.le_of_ble_eq_true rfl) rfl ?_
  show V G MX8_doStep (am_R 1 22 0 0) _ 0 0 0 [(0, .ref mM), (1, .int (nI s))] [] (hp I A)
  refine V.aload_n (j := 0) rfl dX8_doStep_0 ?_
  refine V.getr (q := m_first) dX8_doStep_1 fX8_16 rfl rfl ?_
  refine V.iload_n (j := 1) rfl dX8_doStep_4 ?_
  refine V.lda (v := nI a) dX8_doStep_5 rfl (by omega) (by decide) ea ?_
  refine V.istore_n (ls' := [(0, .ref mM), (1, .int (nI s)), (2, .int (nI a))]) dX8_doStep_6 (by decide) rfl ?_
  refine V.aload_n (j := 0) rfl dX8_doStep_7 ?_
  refine V.getr (q := m_second) dX8_doStep_8 fX8_19 rfl rfl ?_
  refine V.iload_n (j := 1) rfl dX8_doStep_11 ?_
  refine V.lda (v := nI b) dX8_doStep_12 rfl (by omega) (by decide) eb ?_
  refine V.istore_n (ls' := [(0, .ref mM), (1, .int (nI s)), (2, .int (nI a)), (3, .int (nI b))]) dX8_doStep_13 (by decide) rfl ?_
  refine V.aload_n (j := 0) rfl dX8_doStep_14 ?_
  refine V.getr (q := m_third) dX8_doStep_15 fX8_22 rfl rfl ?_
  refine V.iload_n (j := 1) rfl dX8_doStep_18 ?_
  refine V.lda (v := nI c) dX8_doStep_19 rfl (by omega) (by decide) ec ?_
  refine V.istore (ls' := [(0, .ref mM), (1, .int (nI s)), (2, .int (nI a)), (3, .int (nI b)), (4, .int (nI c))]) dX8_doStep_20 (by decide) rfl ?_
  refine V.aload_n (j := 0) rfl dX8_doStep_22 ?_
  refine V.getr (q := m_ops) dX8_doStep_23 fX8_13 rfl rfl ?_
  refine V.iload_n (j := 1) rfl dX8_doStep_26 ?_
  refine V.lda (v := nI 6) dX8_doStep_27 rfl (by omega) (by decide) ek ?_
  refine V.tableIn (tgt := 166) dX8_doStep_28 (by decide) (by decide) rfl (by decide) ?_
  refine V.aload_n (j := 0) rfl dX8_doStep_166 ?_
  refine V.getr (q := m_left) dX8_doStep_167 fX8_61 rfl rfl ?_
  refine V.aload_n (j := 0) rfl dX8_doStep_170 ?_
  refine V.getr (q := m_now) dX8_doStep_171 fX8_70 rfl rfl ?_
  refine V.iload_n (j := 3) rfl dX8_doStep_174 ?_
  refine V.lda (v := A m_now b) dX8_doStep_175 rfl (by omega) (by decide) rfl ?_
  refine V.iload (j := 4) rfl dX8_doStep_176 ?_
  refine V.iadd dX8_doStep_178 ?_
  refine V.bipush (v := nI 63) (by decide) dX8_doStep_179 ?_
  refine V.iand dX8_doStep_181 ?_
  have hcl := mz_cl_lt (((A m_now b) + (nI c)))
  refine V.st (st' := [.int (nI (mz_cl (((A m_now b) + (nI c))))), .ref m_left]) (by rw [mz_cl_e]) ?_
  refine V.aload_n (j := 0) rfl dX8_doStep_182 ?_
  refine V.getr (q := m_now) dX8_doStep_183 fX8_70 rfl rfl ?_
  refine V.iload_n (j := 2) rfl dX8_doStep_186 ?_
  refine V.lda (v := A m_now a) dX8_doStep_187 rfl (by omega) (by decide) rfl ?_
  refine V.sta (g := upd (A m_left) (mz_cl (((A m_now b) + (nI c)))) (A m_now a)) dX8_doStep_188 rfl (by omega) (by decide) rfl ?_
  refine V.goto (tgt := 234) dX8_doStep_189 (by decide) ?_
  refine V.iload_n (j := 1) rfl dX8_doStep_234 ?_
  refine V.iconst (v := nI 1) (by decide) dX8_doStep_235 ?_
  refine V.iaddN dX8_doStep_236 ?_
  refine V.ri dX8_doStep_237 rfl ?_
  exact ⟨rfl, by rw [← ht, upI_i], mz_DA_l⟩
set_option maxRecDepth 100000 in
set_option maxHeartbeats 4000000 in
theorem md_doStep7 {G : am_G} (I A : Nat → Nat → Int32) (s : Nat) (hs : s < 60) (t : Nat) (ht : I mM 19 = nI t) (ht2 : t < 4000) (ek : A m_ops s = nI 7) (a : Nat) (ha : a < 24) (ea : A m_first s = nI a) (b : Nat) (hb : b < 24) (eb : A m_second s = nI b) (c : Nat) (hc : c < 61) (ec : A m_third s = nI c) : Cm G MX8_doStep 1 22 [.ref mM, .int (nI s)] I A (fun r I' A' => r = some (.int (nI (if (A m_now) b ≤ (A m_now) a then s + 1 else c))) ∧ upI I mM 19 (nI (t)) = I' ∧ mz_DA A ((A m_now)) ((A m_left)) ((A m_said)) = A') := by
  refine Cm.of (by decide) (Nat.le_of_ble_eq_true rfl) rfl ?_
  show V G MX8_doStep (am_R 1 22 0 0) _ 0 0 0 [(0, .ref mM), (1, .int (nI s))] [] (hp I A)
  refine V.aload_n (j := 0) rfl dX8_doStep_0 ?_
  refine V.getr (q := m_first) dX8_doStep_1 fX8_16 rfl rfl ?_
  refine V.iload_n (j := 1) rfl dX8_doStep_4 ?_
  refine V.lda (v := nI a) dX8_doStep_5 rfl (by omega) (by decide) ea ?_
  refine V.istore_n (ls' := [(0, .ref mM), (1, .int (nI s)), (2, .int (nI a))]) dX8_doStep_6 (by decide) rfl ?_
  refine V.aload_n (j := 0) rfl dX8_doStep_7 ?_
  refine V.getr (q := m_second) dX8_doStep_8 fX8_19 rfl rfl ?_
  refine V.iload_n (j := 1) rfl dX8_doStep_11 ?_
  refine V.lda (v := nI b) dX8_doStep_12 rfl (by omega) (by decide) eb ?_
  refine V.istore_n (ls' := [(0, .ref mM), (1, .int (nI s)), (2, .int (nI a)), (3, .int (nI b))]) dX8_doStep_13 (by decide) rfl ?_
  refine V.aload_n (j := 0) rfl dX8_doStep_14 ?_
  refine V.getr (q := m_third) dX8_doStep_15 fX8_22 rfl rfl ?_
  refine V.iload_n (j := 1) rfl dX8_doStep_18 ?_
  refine V.lda (v := nI c) dX8_doStep_19 rfl (by omega) (by decide) ec ?_
  refine V.istore (ls' := [(0, .ref mM), (1, .int (nI s)), (2, .int (nI a)), (3, .int (nI b)), (4, .int (nI c))]) dX8_doStep_20 (by decide) rfl ?_
  refine V.aload_n (j := 0) rfl dX8_doStep_22 ?_
  refine V.getr (q := m_ops) dX8_doStep_23 fX8_13 rfl rfl ?_
  refine V.iload_n (j := 1) rfl dX8_doStep_26 ?_
  refine V.lda (v := nI 7) dX8_doStep_27 rfl (by omega) (by decide) ek ?_
  refine V.tableIn (tgt := 192) dX8_doStep_28 (by decide) (by decide) rfl (by decide) ?_
  refine V.aload_n (j := 0) rfl dX8_doStep_192 ?_
  refine V.getr (q := m_now) dX8_doStep_193 fX8_70 rfl rfl ?_
  refine V.iload_n (j := 2) rfl dX8_doStep_196 ?_
  refine V.lda (v := A m_now a) dX8_doStep_197 rfl (by omega) (by decide) rfl ?_
  refine V.aload_n (j := 0) rfl dX8_doStep_198 ?_
  refine V.getr (q := m_now) dX8_doStep_199 fX8_70 rfl rfl ?_
  refine V.iload_n (j := 3) rfl dX8_doStep_202 ?_
  refine V.lda (v := A m_now b) dX8_doStep_203 rfl (by omega) (by decide) rfl ?_
  refine V.icmp_ge (tgt := 212) dX8_doStep_204 (by decide) (fun c1 => ?_) (fun c1 => ?_)
  · refine V.iload_n (j := 1) rfl dX8_doStep_212 ?_
    refine V.iconst (v := nI 1) (by decide) dX8_doStep_213 ?_
    refine V.iaddN dX8_doStep_214 ?_
    refine V.ri dX8_doStep_215 rfl ?_
    exact ⟨by rw [if_pos c1], by rw [← ht, upI_i], mz_DA_i⟩
  · refine V.iload (j := 4) rfl dX8_doStep_207 ?_
    refine V.goto (tgt := 215) dX8_doStep_209 (by decide) ?_
    refine V.ri dX8_doStep_215 rfl ?_
    exact ⟨by rw [if_neg c1], by rw [← ht, upI_i], mz_DA_i⟩
set_option maxRecDepth 100000 in
set_option maxHeartbeats 4000000 in
theorem md_doStep8 {G : am_G} (I A : Nat → Nat → Int32) (s : Nat) (hs : s < 60) (t : Nat) (ht : I mM 19 = nI t) (ht2 : t < 4000) (ek : A m_ops s = nI 8) (a : Nat) (ha : a < 61) (ea : A m_first s = nI a) : Cm G MX8_doStep 1 22 [.ref mM, .int (nI s)] I A (fun r I' A' => r = some (.int (nI (a))) ∧ upI I mM 19 (nI (t)) = I' ∧ mz_DA A ((A m_now)) ((A m_left)) ((A m_said)) = A') := by
  refine Cm.of (by decide) (Nat.le_of_ble_eq_true rfl) rfl ?_
  show V G MX8_doStep (am_R 1 22 0 0) _ 0 0 0 [(0, .ref mM), (1, .int (nI s))] [] (hp I A)
  refine V.aload_n (j := 0) rfl dX8_doStep_0 ?_
  refine V.getr (q := m_first) dX8_doStep_1 fX8_16 rfl rfl ?_
  refine V.iload_n (j := 1) rfl dX8_doStep_4 ?_
  refine V.lda (v := nI a) dX8_doStep_5 rfl (by omega) (by decide) ea ?_
  refine V.istore_n (ls' := [(0, .ref mM), (1, .int (nI s)), (2, .int (nI a))]) dX8_doStep_6 (by decide) rfl ?_
  refine V.aload_n (j := 0) rfl dX8_doStep_7 ?_
  refine V.getr (q := m_second) dX8_doStep_8 fX8_19 rfl rfl ?_
  refine V.iload_n (j := 1) rfl dX8_doStep_11 ?_
  refine V.lda (v := A m_second s) dX8_doStep_12 rfl (by omega) (by decide) rfl ?_
  refine V.istore_n (ls' := [(0, .ref mM), (1, .int (nI s)), (2, .int (nI a)), (3, .int (A m_second s))]) dX8_doStep_13 (by decide) rfl ?_
  refine V.aload_n (j := 0) rfl dX8_doStep_14 ?_
  refine V.getr (q := m_third) dX8_doStep_15 fX8_22 rfl rfl ?_
  refine V.iload_n (j := 1) rfl dX8_doStep_18 ?_
  refine V.lda (v := A m_third s) dX8_doStep_19 rfl (by omega) (by decide) rfl ?_
  refine V.istore (ls' := [(0, .ref mM), (1, .int (nI s)), (2, .int (nI a)), (3, .int (A m_second s)), (4, .int (A m_third s))]) dX8_doStep_20 (by decide) rfl ?_
  refine V.aload_n (j := 0) rfl dX8_doStep_22 ?_
  refine V.getr (q := m_ops) dX8_doStep_23 fX8_13 rfl rfl ?_
  refine V.iload_n (j := 1) rfl dX8_doStep_26 ?_
  refine V.lda (v := nI 8) dX8_doStep_27 rfl (by omega) (by decide) ek ?_
  refine V.tableIn (tgt := 216) dX8_doStep_28 (by decide) (by decide) rfl (by decide) ?_
  refine V.iload_n (j := 2) rfl dX8_doStep_216 ?_
  refine V.ri dX8_doStep_217 rfl ?_
  exact ⟨rfl, by rw [← ht, upI_i], mz_DA_i⟩
set_option maxRecDepth 100000 in
set_option maxHeartbeats 4000000 in
theorem md_doStep9 {G : am_G} (I A : Nat → Nat → Int32) (s : Nat) (hs : s < 60) (t : Nat) (ht : I mM 19 = nI t) (ht2 : t < 4000) (ek : A m_ops s = nI 9) (a : Nat) (ha : a < 24) (ea : A m_first s = nI a) : Cm G MX8_doStep 1 22 [.ref mM, .int (nI s)] I A (fun r I' A' => r = some (.int (nI (s + 1))) ∧ upI I mM 19 (nI (t + 1)) = I' ∧ mz_DA A ((A m_now)) ((A m_left)) (mz_sy t (A m_said) ((A m_now) a)) = A') := by
  refine Cm.of (by decide) (Nat.le_of_ble_eq_true rfl) rfl ?_
  show V G MX8_doStep (am_R 1 22 0 0) _ 0 0 0 [(0, .ref mM), (1, .int (nI s))] [] (hp I A)
  refine V.aload_n (j := 0) rfl dX8_doStep_0 ?_
  refine V.getr (q := m_first) dX8_doStep_1 fX8_16 rfl rfl ?_
  refine V.iload_n (j := 1) rfl dX8_doStep_4 ?_
  refine V.lda (v := nI a) dX8_doStep_5 rfl (by omega) (by decide) ea ?_
  refine V.istore_n (ls' := [(0, .ref mM), (1, .int (nI s)), (2, .int (nI a))]) dX8_doStep_6 (by decide) rfl ?_
  refine V.aload_n (j := 0) rfl dX8_doStep_7 ?_
  refine V.getr (q := m_second) dX8_doStep_8 fX8_19 rfl rfl ?_
  refine V.iload_n (j := 1) rfl dX8_doStep_11 ?_
  refine V.lda (v := A m_second s) dX8_doStep_12 rfl (by omega) (by decide) rfl ?_
  refine V.istore_n (ls' := [(0, .ref mM), (1, .int (nI s)), (2, .int (nI a)), (3, .int (A m_second s))]) dX8_doStep_13 (by decide) rfl ?_
  refine V.aload_n (j := 0) rfl dX8_doStep_14 ?_
  refine V.getr (q := m_third) dX8_doStep_15 fX8_22 rfl rfl ?_
  refine V.iload_n (j := 1) rfl dX8_doStep_18 ?_
  refine V.lda (v := A m_third s) dX8_doStep_19 rfl (by omega) (by decide) rfl ?_
  refine V.istore (ls' := [(0, .ref mM), (1, .int (nI s)), (2, .int (nI a)), (3, .int (A m_second s)), (4, .int (A m_third s))]) dX8_doStep_20 (by decide) rfl ?_
  refine V.aload_n (j := 0) rfl dX8_doStep_22 ?_
  refine V.getr (q := m_ops) dX8_doStep_23 fX8_13 rfl rfl ?_
  refine V.iload_n (j := 1) rfl dX8_doStep_26 ?_
  refine V.lda (v := nI 9) dX8_doStep_27 rfl (by omega) (by decide) ek ?_
  refine V.tableIn (tgt := 218) dX8_doStep_28 (by decide) (by decide) rfl (by decide) ?_
  refine V.aload_n (j := 0) rfl dX8_doStep_218 ?_
  refine V.aload_n (j := 0) rfl dX8_doStep_219 ?_
  refine V.getr (q := m_now) dX8_doStep_220 fX8_70 rfl rfl ?_
  refine V.iload_n (j := 2) rfl dX8_doStep_223 ?_
  refine V.lda (v := A m_now a) dX8_doStep_224 rfl (by omega) (by decide) rfl ?_
  refine V.cV (As := [.int (A m_now a)]) (st := []) dX8_doStep_225 sX8_182 iX8_say lX8_say rfl rfl (md_say I A t ht (by omega) _) ⟨by decide, by decide⟩ (Nat.le_of_ble_eq_true rfl) rfl (fun r I' A' hq => ?_)
  obtain ⟨rfl, rfl, rfl⟩ := hq
  refine V.st (st' := []) rfl ?_
  refine V.goto (tgt := 234) dX8_doStep_228 (by decide) ?_
  refine V.iload_n (j := 1) rfl dX8_doStep_234 ?_
  refine V.iconst (v := nI 1) (by decide) dX8_doStep_235 ?_
  refine V.iaddN dX8_doStep_236 ?_
  refine V.ri dX8_doStep_237 rfl ?_
  exact ⟨rfl, rfl, mz_DA_s⟩
set_option maxRecDepth 100000 in
set_option maxHeartbeats 4000000 in
theorem md_doStep10 {G : am_G} (I A : Nat → Nat → Int32) (s : Nat) (hs : s < 60) (t : Nat) (ht : I mM 19 = nI t) (ht2 : t < 4000) (ek : A m_ops s = nI 10)  : Cm G MX8_doStep 1 22 [.ref mM, .int (nI s)] I A (fun r I' A' => r = some (.int (nI (60))) ∧ upI I mM 19 (nI (t)) = I' ∧ mz_DA A ((A m_now)) ((A m_left)) ((A m_said)) = A') := by
  refine Cm.of (by decide) (Nat.le_of_ble_eq_true rfl) rfl ?_
  show V G MX8_doStep (am_R 1 22 0 0) _ 0 0 0 [(0, .ref mM), (1, .int (nI s))] [] (hp I A)
  refine V.aload_n (j := 0) rfl dX8_doStep_0 ?_
  refine V.getr (q := m_first) dX8_doStep_1 fX8_16 rfl rfl ?_
  refine V.iload_n (j := 1) rfl dX8_doStep_4 ?_
  refine V.lda (v := A m_first s) dX8_doStep_5 rfl (by omega) (by decide) rfl ?_
  refine V.istore_n (ls' := [(0, .ref mM), (1, .int (nI s)), (2, .int (A m_first s))]) dX8_doStep_6 (by decide) rfl ?_
  refine V.aload_n (j := 0) rfl dX8_doStep_7 ?_
  refine V.getr (q := m_second) dX8_doStep_8 fX8_19 rfl rfl ?_
  refine V.iload_n (j := 1) rfl dX8_doStep_11 ?_
  refine V.lda (v := A m_second s) dX8_doStep_12 rfl (by omega) (by decide) rfl ?_
  refine V.istore_n (ls' := [(0, .ref mM), (1, .int (nI s)), (2, .int (A m_first s)), (3, .int (A m_second s))]) dX8_doStep_13 (by decide) rfl ?_
  refine V.aload_n (j := 0) rfl dX8_doStep_14 ?_
  refine V.getr (q := m_third) dX8_doStep_15 fX8_22 rfl rfl ?_
  refine V.iload_n (j := 1) rfl dX8_doStep_18 ?_
  refine V.lda (v := A m_third s) dX8_doStep_19 rfl (by omega) (by decide) rfl ?_
  refine V.istore (ls' := [(0, .ref mM), (1, .int (nI s)), (2, .int (A m_first s)), (3, .int (A m_second s)), (4, .int (A m_third s))]) dX8_doStep_20 (by decide) rfl ?_
  refine V.aload_n (j := 0) rfl dX8_doStep_22 ?_
  refine V.getr (q := m_ops) dX8_doStep_23 fX8_13 rfl rfl ?_
  refine V.iload_n (j := 1) rfl dX8_doStep_26 ?_
  refine V.lda (v := nI 10) dX8_doStep_27 rfl (by omega) (by decide) ek ?_
  refine V.tableOut (tgt := 231) dX8_doStep_28 (by decide) (by decide) ?_
  refine V.bipush (v := nI 60) (by decide) dX8_doStep_231 ?_
  refine V.ri dX8_doStep_233 rfl ?_
  exact ⟨rfl, by rw [← ht, upI_i], mz_DA_i⟩
