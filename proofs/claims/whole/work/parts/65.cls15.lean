theorem cz_up5 {I : Nat → Nat → Int32} {a : Nat} {u v w x : Int32} : upI (upI (upI (upI I a 5 u) a 4 v) a 5 w) a 4 x = upI (upI I a 5 w) a 4 x := by
  funext b k
  by_cases h4 : b = a ∧ k = 4
  · simp [upI, h4]
  · by_cases h5 : b = a ∧ k = 5
    · simp [upI, h5]
    · simp [upI, h4, h5]
theorem cz_up54 {I : Nat → Nat → Int32} {a : Nat} {u v : Int32} : upI (upI I a 4 u) a 5 v = upI (upI I a 5 v) a 4 u := by
  funext b k
  by_cases h4 : b = a ∧ k = 4
  · simp [upI, h4]
  · by_cases h5 : b = a ∧ k = 5
    · simp [upI, h5]
    · simp [upI, h4, h5]
set_option maxRecDepth 100000 in
set_option maxHeartbeats 4000000 in
theorem cl_beg36_1 {G : am_G} {Fn : Array Value → State → List Frame → State → Prop} (I A : Nat → Nat → Int32)  : ∀ (m : Nat) (i : Nat) (f : Nat → Int32), i + m = 32 → V G MX4_begin (am_R 0 0 0 0) Fn 0 0 24 [(0, .ref 36), (1, .ref 35)] [] (hp I (upA A 37 (mz_fill m i f))) → V G MX4_begin (am_R 0 0 0 0) Fn 0 0 2 [(0, .ref 36), (1, .ref 35), (2, .int (nI i))] [] (hp I (upA A 37 (f))) := by
  intro m
  induction m with
  | zero =>
    intro i f hi0 hk
    refine V.iload_n (j := 2) rfl dX4_begin_2 ?_
    refine V.aload_n (j := 0) rfl dX4_begin_3 ?_
    refine V.getr (q := 37) dX4_begin_4 fX4_9 rfl rfl ?_
    refine V.len dX4_begin_7 rfl (by decide) ?_
    refine V.icmp_geN (tgt := 24) dX4_begin_8 (by decide) (by omega) (by omega) (fun c1 => ?_) (fun c1 => ?_)
    · refine V.fewer [0, 1] rfl ?_
      exact hk
    · exact absurd c1 (by omega)
  | succ m ih =>
    intro i f hi0 hk
    refine V.iload_n (j := 2) rfl dX4_begin_2 ?_
    refine V.aload_n (j := 0) rfl dX4_begin_3 ?_
    refine V.getr (q := 37) dX4_begin_4 fX4_9 rfl rfl ?_
    refine V.len dX4_begin_7 rfl (by decide) ?_
    refine V.icmp_geN (tgt := 24) dX4_begin_8 (by decide) (by omega) (by omega) (fun c2 => ?_) (fun c2 => ?_)
    · exact absurd c2 (by omega)
    · refine V.aload_n (j := 0) rfl dX4_begin_11 ?_
      refine V.getr (q := 37) dX4_begin_12 fX4_9 rfl rfl ?_
      refine V.iload_n (j := 2) rfl dX4_begin_15 ?_
      refine V.iconst (v := nI 0) (by decide) dX4_begin_16 ?_
      refine V.sta (g := upd f i (nI 0)) dX4_begin_17 rfl (by omega) (by decide) rfl ?_
      refine V.hpe (A' := (upA A 37 (upd f i (nI 0)))) rfl upA_u ?_
      refine V.iincN (ls' := [(0, .ref 36), (1, .ref 35), (2, .int (nI (i + 1)))]) dX4_begin_18 (j := 2) rfl (by decide) rfl ?_
      refine V.goto (tgt := 2) dX4_begin_21 (by decide) ?_
      exact ih (i + 1) _ (by omega) hk
set_option maxRecDepth 100000 in
set_option maxHeartbeats 4000000 in
theorem cl_beg36_2 {G : am_G} {Fn : Array Value → State → List Frame → State → Prop} (I A : Nat → Nat → Int32)  : ∀ (m : Nat) (i : Nat) (f : Nat → Int32), i + m = 48 → V G MX4_begin (am_R 0 0 0 0) Fn 0 0 48 [(0, .ref 36), (1, .ref 35)] [] (hp I (upA A 38 (mz_fill m i f))) → V G MX4_begin (am_R 0 0 0 0) Fn 0 0 26 [(0, .ref 36), (1, .ref 35), (2, .int (nI i))] [] (hp I (upA A 38 (f))) := by
  intro m
  induction m with
  | zero =>
    intro i f hi0 hk
    refine V.iload_n (j := 2) rfl dX4_begin_26 ?_
    refine V.aload_n (j := 0) rfl dX4_begin_27 ?_
    refine V.getr (q := 38) dX4_begin_28 fX4_15 rfl rfl ?_
    refine V.len dX4_begin_31 rfl (by decide) ?_
    refine V.icmp_geN (tgt := 48) dX4_begin_32 (by decide) (by omega) (by omega) (fun c1 => ?_) (fun c1 => ?_)
    · refine V.fewer [0, 1] rfl ?_
      exact hk
    · exact absurd c1 (by omega)
  | succ m ih =>
    intro i f hi0 hk
    refine V.iload_n (j := 2) rfl dX4_begin_26 ?_
    refine V.aload_n (j := 0) rfl dX4_begin_27 ?_
    refine V.getr (q := 38) dX4_begin_28 fX4_15 rfl rfl ?_
    refine V.len dX4_begin_31 rfl (by decide) ?_
    refine V.icmp_geN (tgt := 48) dX4_begin_32 (by decide) (by omega) (by omega) (fun c2 => ?_) (fun c2 => ?_)
    · exact absurd c2 (by omega)
    · refine V.aload_n (j := 0) rfl dX4_begin_35 ?_
      refine V.getr (q := 38) dX4_begin_36 fX4_15 rfl rfl ?_
      refine V.iload_n (j := 2) rfl dX4_begin_39 ?_
      refine V.iconst (v := nI 0) (by decide) dX4_begin_40 ?_
      refine V.sta (g := upd f i (nI 0)) dX4_begin_41 rfl (by omega) (by decide) rfl ?_
      refine V.hpe (A' := (upA A 38 (upd f i (nI 0)))) rfl upA_u ?_
      refine V.iincN (ls' := [(0, .ref 36), (1, .ref 35), (2, .int (nI (i + 1)))]) dX4_begin_42 (j := 2) rfl (by decide) rfl ?_
      refine V.goto (tgt := 26) dX4_begin_45 (by decide) ?_
      exact ih (i + 1) _ (by omega) hk
set_option maxRecDepth 100000 in
set_option maxHeartbeats 4000000 in
theorem cl_beg36_3 {G : am_G} {Fn : Array Value → State → List Frame → State → Prop} (I A : Nat → Nat → Int32)  : ∀ (m : Nat) (i : Nat) (f : Nat → Int32), i + m = 64 → V G MX4_begin (am_R 0 0 0 0) Fn 0 0 71 [(0, .ref 36), (1, .ref 35)] [] (hp I (upA A 39 (mz_cpf (A 35) m i f))) → V G MX4_begin (am_R 0 0 0 0) Fn 0 0 50 [(0, .ref 36), (1, .ref 35), (2, .int (nI i))] [] (hp I (upA A 39 (f))) := by
  intro m
  induction m with
  | zero =>
    intro i f hi0 hk
    refine V.iload_n (j := 2) rfl dX4_begin_50 ?_
    refine V.bipush (v := nI 64) (by decide) dX4_begin_51 ?_
    refine V.icmp_geN (tgt := 71) dX4_begin_53 (by decide) (by omega) (by omega) (fun c1 => ?_) (fun c1 => ?_)
    · refine V.fewer [0, 1] rfl ?_
      exact hk
    · exact absurd c1 (by omega)
  | succ m ih =>
    intro i f hi0 hk
    refine V.iload_n (j := 2) rfl dX4_begin_50 ?_
    refine V.bipush (v := nI 64) (by decide) dX4_begin_51 ?_
    refine V.icmp_geN (tgt := 71) dX4_begin_53 (by decide) (by omega) (by omega) (fun c2 => ?_) (fun c2 => ?_)
    · exact absurd c2 (by omega)
    · refine V.aload_n (j := 0) rfl dX4_begin_56 ?_
      refine V.getr (q := 39) dX4_begin_57 fX4_18 rfl rfl ?_
      refine V.iload_n (j := 2) rfl dX4_begin_60 ?_
      refine V.aload_n (j := 1) rfl dX4_begin_61 ?_
      refine V.iload_n (j := 2) rfl dX4_begin_62 ?_
      refine V.lda (v := A 35 i) dX4_begin_63 rfl (by omega) (by decide) rfl ?_
      refine V.sta (g := upd f i (A 35 i)) dX4_begin_64 rfl (by omega) (by decide) rfl ?_
      refine V.hpe (A' := (upA A 39 (upd f i (A 35 i)))) rfl upA_u ?_
      refine V.iincN (ls' := [(0, .ref 36), (1, .ref 35), (2, .int (nI (i + 1)))]) dX4_begin_65 (j := 2) rfl (by decide) rfl ?_
      refine V.goto (tgt := 50) dX4_begin_68 (by decide) ?_
      exact ih (i + 1) _ (by omega) hk
set_option maxRecDepth 100000 in
set_option maxHeartbeats 4000000 in
theorem cd_begin36 {G : am_G} (I A : Nat → Nat → Int32)  : Cm G MX4_begin 0 0 [.ref 36, .ref 35] I A (fun r I' A' => r = none ∧ upI (upI I 36 4 (nI 0)) 36 5 (nI 0) = I' ∧ (upA (upA (upA A 37 (mz_fill 32 0 (A 37))) 38 (mz_fill 48 0 (A 38))) 39 (mz_cpf (A 35) 64 0 (A 39))) = A') := by
  refine Cm.of (by decide) (Nat.le_of_ble_eq_true rfl) rfl ?_
  show V G MX4_begin (am_R 0 0 0 0) _ 0 0 0 [(0, .ref 36), (1, .ref 35)] [] (hp I A)
  refine V.iconst (v := nI 0) (by decide) dX4_begin_0 ?_
  refine V.istore_n (ls' := [(0, .ref 36), (1, .ref 35), (2, .int (nI 0))]) dX4_begin_1 (by decide) rfl ?_
  refine V.hpe (A' := (upA A 37 (A 37))) rfl (by rw [upA_i]) ?_
  refine cl_beg36_1 I A 32 0 _ (by omega) ?_
  refine V.iconst (v := nI 0) (by decide) dX4_begin_24 ?_
  refine V.istore_n (ls' := [(0, .ref 36), (1, .ref 35), (2, .int (nI 0))]) dX4_begin_25 (by decide) rfl ?_
  refine V.hpe (A' := (upA (upA A 37 (mz_fill 32 0 (A 37))) 38 (A 38))) rfl (by rw [show A 38 = (upA A 37 (mz_fill 32 0 (A 37))) 38 from rfl, upA_i]) ?_
  refine cl_beg36_2 I (upA A 37 (mz_fill 32 0 (A 37))) 48 0 _ (by omega) ?_
  refine V.iconst (v := nI 0) (by decide) dX4_begin_48 ?_
  refine V.istore_n (ls' := [(0, .ref 36), (1, .ref 35), (2, .int (nI 0))]) dX4_begin_49 (by decide) rfl ?_
  refine V.hpe (A' := (upA (upA (upA A 37 (mz_fill 32 0 (A 37))) 38 (mz_fill 48 0 (A 38))) 39 (A 39))) rfl (by rw [show A 39 = (upA (upA A 37 (mz_fill 32 0 (A 37))) 38 (mz_fill 48 0 (A 38))) 39 from rfl, upA_i]) ?_
  refine cl_beg36_3 I (upA (upA A 37 (mz_fill 32 0 (A 37))) 38 (mz_fill 48 0 (A 38))) 64 0 _ (by omega) ?_
  refine V.aload_n (j := 0) rfl dX4_begin_71 ?_
  refine V.iconst (v := nI 0) (by decide) dX4_begin_72 ?_
  refine V.puti dX4_begin_73 pX4_24 rfl rfl ?_
  refine V.aload_n (j := 0) rfl dX4_begin_76 ?_
  refine V.iconst (v := nI 0) (by decide) dX4_begin_77 ?_
  refine V.puti dX4_begin_78 pX4_28 rfl rfl ?_
  refine V.rv dX4_begin_81 rfl ?_
  exact ⟨rfl, rfl, rfl⟩
theorem cz_MM36 {A : Nat → Nat → Int32} {f g h k f' g' h' k' : Nat → Int32} : upA (upA (upA (upA (upA (upA (upA (upA A 37 f) 39 g) 40 h) 38 k) 37 f') 39 g') 40 h') 38 k' = upA (upA (upA (upA A 37 f') 39 g') 40 h') 38 k' := by
  rw [upA_r4 (a := 37) (b := 39) (c := 40) (d := 38) (by decide) (by decide) (by decide), upA_r3 (a := 39) (b := 40) (c := 38) (by decide) (by decide), upA_r2 (a := 40) (b := 38) (by decide), upA_u]
theorem cz_MB36 {A : Nat → Nat → Int32} {f g k : Nat → Int32} : upA (upA (upA A 37 f) 38 k) 39 g = upA (upA (upA (upA A 37 f) 39 g) 40 (A 40)) 38 k := by
  rw [show A 40 = (upA (upA A 37 f) 39 g) 40 from rfl, upA_i, upA_c (a := 38) (b := 39) (by decide)]
set_option maxRecDepth 100000 in
set_option maxHeartbeats 4000000 in
theorem cl_beg41_1 {G : am_G} {Fn : Array Value → State → List Frame → State → Prop} (I A : Nat → Nat → Int32)  : ∀ (m : Nat) (i : Nat) (f : Nat → Int32), i + m = 32 → V G MX4_begin (am_R 0 0 0 0) Fn 0 0 24 [(0, .ref 41), (1, .ref 35)] [] (hp I (upA A 42 (mz_fill m i f))) → V G MX4_begin (am_R 0 0 0 0) Fn 0 0 2 [(0, .ref 41), (1, .ref 35), (2, .int (nI i))] [] (hp I (upA A 42 (f))) := by
  intro m
  induction m with
  | zero =>
    intro i f hi0 hk
    refine V.iload_n (j := 2) rfl dX4_begin_2 ?_
    refine V.aload_n (j := 0) rfl dX4_begin_3 ?_
    refine V.getr (q := 42) dX4_begin_4 fX4_9 rfl rfl ?_
    refine V.len dX4_begin_7 rfl (by decide) ?_
    refine V.icmp_geN (tgt := 24) dX4_begin_8 (by decide) (by omega) (by omega) (fun c1 => ?_) (fun c1 => ?_)
    · refine V.fewer [0, 1] rfl ?_
      exact hk
    · exact absurd c1 (by omega)
  | succ m ih =>
    intro i f hi0 hk
    refine V.iload_n (j := 2) rfl dX4_begin_2 ?_
    refine V.aload_n (j := 0) rfl dX4_begin_3 ?_
    refine V.getr (q := 42) dX4_begin_4 fX4_9 rfl rfl ?_
    refine V.len dX4_begin_7 rfl (by decide) ?_
    refine V.icmp_geN (tgt := 24) dX4_begin_8 (by decide) (by omega) (by omega) (fun c2 => ?_) (fun c2 => ?_)
    · exact absurd c2 (by omega)
    · refine V.aload_n (j := 0) rfl dX4_begin_11 ?_
      refine V.getr (q := 42) dX4_begin_12 fX4_9 rfl rfl ?_
      refine V.iload_n (j := 2) rfl dX4_begin_15 ?_
      refine V.iconst (v := nI 0) (by decide) dX4_begin_16 ?_
      refine V.sta (g := upd f i (nI 0)) dX4_begin_17 rfl (by omega) (by decide) rfl ?_
      refine V.hpe (A' := (upA A 42 (upd f i (nI 0)))) rfl upA_u ?_
      refine V.iincN (ls' := [(0, .ref 41), (1, .ref 35), (2, .int (nI (i + 1)))]) dX4_begin_18 (j := 2) rfl (by decide) rfl ?_
      refine V.goto (tgt := 2) dX4_begin_21 (by decide) ?_
      exact ih (i + 1) _ (by omega) hk
set_option maxRecDepth 100000 in
set_option maxHeartbeats 4000000 in
theorem cl_beg41_2 {G : am_G} {Fn : Array Value → State → List Frame → State → Prop} (I A : Nat → Nat → Int32)  : ∀ (m : Nat) (i : Nat) (f : Nat → Int32), i + m = 48 → V G MX4_begin (am_R 0 0 0 0) Fn 0 0 48 [(0, .ref 41), (1, .ref 35)] [] (hp I (upA A 43 (mz_fill m i f))) → V G MX4_begin (am_R 0 0 0 0) Fn 0 0 26 [(0, .ref 41), (1, .ref 35), (2, .int (nI i))] [] (hp I (upA A 43 (f))) := by
  intro m
  induction m with
  | zero =>
    intro i f hi0 hk
    refine V.iload_n (j := 2) rfl dX4_begin_26 ?_
    refine V.aload_n (j := 0) rfl dX4_begin_27 ?_
    refine V.getr (q := 43) dX4_begin_28 fX4_15 rfl rfl ?_
    refine V.len dX4_begin_31 rfl (by decide) ?_
    refine V.icmp_geN (tgt := 48) dX4_begin_32 (by decide) (by omega) (by omega) (fun c1 => ?_) (fun c1 => ?_)
    · refine V.fewer [0, 1] rfl ?_
      exact hk
    · exact absurd c1 (by omega)
  | succ m ih =>
    intro i f hi0 hk
    refine V.iload_n (j := 2) rfl dX4_begin_26 ?_
    refine V.aload_n (j := 0) rfl dX4_begin_27 ?_
    refine V.getr (q := 43) dX4_begin_28 fX4_15 rfl rfl ?_
    refine V.len dX4_begin_31 rfl (by decide) ?_
    refine V.icmp_geN (tgt := 48) dX4_begin_32 (by decide) (by omega) (by omega) (fun c2 => ?_) (fun c2 => ?_)
    · exact absurd c2 (by omega)
    · refine V.aload_n (j := 0) rfl dX4_begin_35 ?_
      refine V.getr (q := 43) dX4_begin_36 fX4_15 rfl rfl ?_
      refine V.iload_n (j := 2) rfl dX4_begin_39 ?_
      refine V.iconst (v := nI 0) (by decide) dX4_begin_40 ?_
      refine V.sta (g := upd f i (nI 0)) dX4_begin_41 rfl (by omega) (by decide) rfl ?_
      refine V.hpe (A' := (upA A 43 (upd f i (nI 0)))) rfl upA_u ?_
      refine V.iincN (ls' := [(0, .ref 41), (1, .ref 35), (2, .int (nI (i + 1)))]) dX4_begin_42 (j := 2) rfl (by decide) rfl ?_
      refine V.goto (tgt := 26) dX4_begin_45 (by decide) ?_
      exact ih (i + 1) _ (by omega) hk
set_option maxRecDepth 100000 in
set_option maxHeartbeats 4000000 in
theorem cl_beg41_3 {G : am_G} {Fn : Array Value → State → List Frame → State → Prop} (I A : Nat → Nat → Int32)  : ∀ (m : Nat) (i : Nat) (f : Nat → Int32), i + m = 64 → V G MX4_begin (am_R 0 0 0 0) Fn 0 0 71 [(0, .ref 41), (1, .ref 35)] [] (hp I (upA A 44 (mz_cpf (A 35) m i f))) → V G MX4_begin (am_R 0 0 0 0) Fn 0 0 50 [(0, .ref 41), (1, .ref 35), (2, .int (nI i))] [] (hp I (upA A 44 (f))) := by
  intro m
  induction m with
  | zero =>
    intro i f hi0 hk
    refine V.iload_n (j := 2) rfl dX4_begin_50 ?_
    refine V.bipush (v := nI 64) (by decide) dX4_begin_51 ?_
    refine V.icmp_geN (tgt := 71) dX4_begin_53 (by decide) (by omega) (by omega) (fun c1 => ?_) (fun c1 => ?_)
    · refine V.fewer [0, 1] rfl ?_
      exact hk
    · exact absurd c1 (by omega)
  | succ m ih =>
    intro i f hi0 hk
    refine V.iload_n (j := 2) rfl dX4_begin_50 ?_
    refine V.bipush (v := nI 64) (by decide) dX4_begin_51 ?_
    refine V.icmp_geN (tgt := 71) dX4_begin_53 (by decide) (by omega) (by omega) (fun c2 => ?_) (fun c2 => ?_)
    · exact absurd c2 (by omega)
    · refine V.aload_n (j := 0) rfl dX4_begin_56 ?_
      refine V.getr (q := 44) dX4_begin_57 fX4_18 rfl rfl ?_
      refine V.iload_n (j := 2) rfl dX4_begin_60 ?_
      refine V.aload_n (j := 1) rfl dX4_begin_61 ?_
      refine V.iload_n (j := 2) rfl dX4_begin_62 ?_
      refine V.lda (v := A 35 i) dX4_begin_63 rfl (by omega) (by decide) rfl ?_
      refine V.sta (g := upd f i (A 35 i)) dX4_begin_64 rfl (by omega) (by decide) rfl ?_
      refine V.hpe (A' := (upA A 44 (upd f i (A 35 i)))) rfl upA_u ?_
      refine V.iincN (ls' := [(0, .ref 41), (1, .ref 35), (2, .int (nI (i + 1)))]) dX4_begin_65 (j := 2) rfl (by decide) rfl ?_
      refine V.goto (tgt := 50) dX4_begin_68 (by decide) ?_
      exact ih (i + 1) _ (by omega) hk
set_option maxRecDepth 100000 in
set_option maxHeartbeats 4000000 in
theorem cd_begin41 {G : am_G} (I A : Nat → Nat → Int32)  : Cm G MX4_begin 0 0 [.ref 41, .ref 35] I A (fun r I' A' => r = none ∧ upI (upI I 41 4 (nI 0)) 41 5 (nI 0) = I' ∧ (upA (upA (upA A 42 (mz_fill 32 0 (A 42))) 43 (mz_fill 48 0 (A 43))) 44 (mz_cpf (A 35) 64 0 (A 44))) = A') := by
  refine Cm.of (by decide) (Nat.le_of_ble_eq_true rfl) rfl ?_
  show V G MX4_begin (am_R 0 0 0 0) _ 0 0 0 [(0, .ref 41), (1, .ref 35)] [] (hp I A)
  refine V.iconst (v := nI 0) (by decide) dX4_begin_0 ?_
  refine V.istore_n (ls' := [(0, .ref 41), (1, .ref 35), (2, .int (nI 0))]) dX4_begin_1 (by decide) rfl ?_
  refine V.hpe (A' := (upA A 42 (A 42))) rfl (by rw [upA_i]) ?_
  refine cl_beg41_1 I A 32 0 _ (by omega) ?_
  refine V.iconst (v := nI 0) (by decide) dX4_begin_24 ?_
  refine V.istore_n (ls' := [(0, .ref 41), (1, .ref 35), (2, .int (nI 0))]) dX4_begin_25 (by decide) rfl ?_
  refine V.hpe (A' := (upA (upA A 42 (mz_fill 32 0 (A 42))) 43 (A 43))) rfl (by rw [show A 43 = (upA A 42 (mz_fill 32 0 (A 42))) 43 from rfl, upA_i]) ?_
  refine cl_beg41_2 I (upA A 42 (mz_fill 32 0 (A 42))) 48 0 _ (by omega) ?_
  refine V.iconst (v := nI 0) (by decide) dX4_begin_48 ?_
  refine V.istore_n (ls' := [(0, .ref 41), (1, .ref 35), (2, .int (nI 0))]) dX4_begin_49 (by decide) rfl ?_
  refine V.hpe (A' := (upA (upA (upA A 42 (mz_fill 32 0 (A 42))) 43 (mz_fill 48 0 (A 43))) 44 (A 44))) rfl (by rw [show A 44 = (upA (upA A 42 (mz_fill 32 0 (A 42))) 43 (mz_fill 48 0 (A 43))) 44 from rfl, upA_i]) ?_
  refine cl_beg41_3 I (upA (upA A 42 (mz_fill 32 0 (A 42))) 43 (mz_fill 48 0 (A 43))) 64 0 _ (by omega) ?_
  refine V.aload_n (j := 0) rfl dX4_begin_71 ?_
  refine V.iconst (v := nI 0) (by decide) dX4_begin_72 ?_
  refine V.puti dX4_begin_73 pX4_24 rfl rfl ?_
  refine V.aload_n (j := 0) rfl dX4_begin_76 ?_
  refine V.iconst (v := nI 0) (by decide) dX4_begin_77 ?_
  refine V.puti dX4_begin_78 pX4_28 rfl rfl ?_
  refine V.rv dX4_begin_81 rfl ?_
  exact ⟨rfl, rfl, rfl⟩
theorem cz_MM41 {A : Nat → Nat → Int32} {f g h k f' g' h' k' : Nat → Int32} : upA (upA (upA (upA (upA (upA (upA (upA A 42 f) 44 g) 45 h) 43 k) 42 f') 44 g') 45 h') 43 k' = upA (upA (upA (upA A 42 f') 44 g') 45 h') 43 k' := by
  rw [upA_r4 (a := 42) (b := 44) (c := 45) (d := 43) (by decide) (by decide) (by decide), upA_r3 (a := 44) (b := 45) (c := 43) (by decide) (by decide), upA_r2 (a := 45) (b := 43) (by decide), upA_u]
theorem cz_MB41 {A : Nat → Nat → Int32} {f g k : Nat → Int32} : upA (upA (upA A 42 f) 43 k) 44 g = upA (upA (upA (upA A 42 f) 44 g) 45 (A 45)) 43 k := by
  rw [show A 45 = (upA (upA A 42 f) 44 g) 45 from rfl, upA_i, upA_c (a := 43) (b := 44) (by decide)]
set_option maxRecDepth 100000 in
set_option maxHeartbeats 4000000 in
theorem cl_beg46_1 {G : am_G} {Fn : Array Value → State → List Frame → State → Prop} (I A : Nat → Nat → Int32)  : ∀ (m : Nat) (i : Nat) (f : Nat → Int32), i + m = 32 → V G MX4_begin (am_R 0 0 0 0) Fn 0 0 24 [(0, .ref 46), (1, .ref 35)] [] (hp I (upA A 47 (mz_fill m i f))) → V G MX4_begin (am_R 0 0 0 0) Fn 0 0 2 [(0, .ref 46), (1, .ref 35), (2, .int (nI i))] [] (hp I (upA A 47 (f))) := by
  intro m
  induction m with
  | zero =>
    intro i f hi0 hk
    refine V.iload_n (j := 2) rfl dX4_begin_2 ?_
    refine V.aload_n (j := 0) rfl dX4_begin_3 ?_
    refine V.getr (q := 47) dX4_begin_4 fX4_9 rfl rfl ?_
    refine V.len dX4_begin_7 rfl (by decide) ?_
    refine V.icmp_geN (tgt := 24) dX4_begin_8 (by decide) (by omega) (by omega) (fun c1 => ?_) (fun c1 => ?_)
    · refine V.fewer [0, 1] rfl ?_
      exact hk
    · exact absurd c1 (by omega)
  | succ m ih =>
    intro i f hi0 hk
    refine V.iload_n (j := 2) rfl dX4_begin_2 ?_
    refine V.aload_n (j := 0) rfl dX4_begin_3 ?_
    refine V.getr (q := 47) dX4_begin_4 fX4_9 rfl rfl ?_
    refine V.len dX4_begin_7 rfl (by decide) ?_
    refine V.icmp_geN (tgt := 24) dX4_begin_8 (by decide) (by omega) (by omega) (fun c2 => ?_) (fun c2 => ?_)
    · exact absurd c2 (by omega)
    · refine V.aload_n (j := 0) rfl dX4_begin_11 ?_
      refine V.getr (q := 47) dX4_begin_12 fX4_9 rfl rfl ?_
      refine V.iload_n (j := 2) rfl dX4_begin_15 ?_
      refine V.iconst (v := nI 0) (by decide) dX4_begin_16 ?_
      refine V.sta (g := upd f i (nI 0)) dX4_begin_17 rfl (by omega) (by decide) rfl ?_
      refine V.hpe (A' := (upA A 47 (upd f i (nI 0)))) rfl upA_u ?_
      refine V.iincN (ls' := [(0, .ref 46), (1, .ref 35), (2, .int (nI (i + 1)))]) dX4_begin_18 (j := 2) rfl (by decide) rfl ?_
      refine V.goto (tgt := 2) dX4_begin_21 (by decide) ?_
      exact ih (i + 1) _ (by omega) hk
set_option maxRecDepth 100000 in
set_option maxHeartbeats 4000000 in
theorem cl_beg46_2 {G : am_G} {Fn : Array Value → State → List Frame → State → Prop} (I A : Nat → Nat → Int32)  : ∀ (m : Nat) (i : Nat) (f : Nat → Int32), i + m = 48 → V G MX4_begin (am_R 0 0 0 0) Fn 0 0 48 [(0, .ref 46), (1, .ref 35)] [] (hp I (upA A 48 (mz_fill m i f))) → V G MX4_begin (am_R 0 0 0 0) Fn 0 0 26 [(0, .ref 46), (1, .ref 35), (2, .int (nI i))] [] (hp I (upA A 48 (f))) := by
  intro m
  induction m with
  | zero =>
    intro i f hi0 hk
    refine V.iload_n (j := 2) rfl dX4_begin_26 ?_
    refine V.aload_n (j := 0) rfl dX4_begin_27 ?_
    refine V.getr (q := 48) dX4_begin_28 fX4_15 rfl rfl ?_
    refine V.len dX4_begin_31 rfl (by decide) ?_
    refine V.icmp_geN (tgt := 48) dX4_begin_32 (by decide) (by omega) (by omega) (fun c1 => ?_) (fun c1 => ?_)
    · refine V.fewer [0, 1] rfl ?_
      exact hk
    · exact absurd c1 (by omega)
  | succ m ih =>
    intro i f hi0 hk
    refine V.iload_n (j := 2) rfl dX4_begin_26 ?_
    refine V.aload_n (j := 0) rfl dX4_begin_27 ?_
    refine V.getr (q := 48) dX4_begin_28 fX4_15 rfl rfl ?_
    refine V.len dX4_begin_31 rfl (by decide) ?_
    refine V.icmp_geN (tgt := 48) dX4_begin_32 (by decide) (by omega) (by omega) (fun c2 => ?_) (fun c2 => ?_)
    · exact absurd c2 (by omega)
    · refine V.aload_n (j := 0) rfl dX4_begin_35 ?_
      refine V.getr (q := 48) dX4_begin_36 fX4_15 rfl rfl ?_
      refine V.iload_n (j := 2) rfl dX4_begin_39 ?_
      refine V.iconst (v := nI 0) (by decide) dX4_begin_40 ?_
      refine V.sta (g := upd f i (nI 0)) dX4_begin_41 rfl (by omega) (by decide) rfl ?_
      refine V.hpe (A' := (upA A 48 (upd f i (nI 0)))) rfl upA_u ?_
      refine V.iincN (ls' := [(0, .ref 46), (1, .ref 35), (2, .int (nI (i + 1)))]) dX4_begin_42 (j := 2) rfl (by decide) rfl ?_
      refine V.goto (tgt := 26) dX4_begin_45 (by decide) ?_
      exact ih (i + 1) _ (by omega) hk
set_option maxRecDepth 100000 in
set_option maxHeartbeats 4000000 in
theorem cl_beg46_3 {G : am_G} {Fn : Array Value → State → List Frame → State → Prop} (I A : Nat → Nat → Int32)  : ∀ (m : Nat) (i : Nat) (f : Nat → Int32), i + m = 64 → V G MX4_begin (am_R 0 0 0 0) Fn 0 0 71 [(0, .ref 46), (1, .ref 35)] [] (hp I (upA A 49 (mz_cpf (A 35) m i f))) → V G MX4_begin (am_R 0 0 0 0) Fn 0 0 50 [(0, .ref 46), (1, .ref 35), (2, .int (nI i))] [] (hp I (upA A 49 (f))) := by
  intro m
  induction m with
  | zero =>
    intro i f hi0 hk
    refine V.iload_n (j := 2) rfl dX4_begin_50 ?_
    refine V.bipush (v := nI 64) (by decide) dX4_begin_51 ?_
    refine V.icmp_geN (tgt := 71) dX4_begin_53 (by decide) (by omega) (by omega) (fun c1 => ?_) (fun c1 => ?_)
    · refine V.fewer [0, 1] rfl ?_
      exact hk
    · exact absurd c1 (by omega)
  | succ m ih =>
    intro i f hi0 hk
    refine V.iload_n (j := 2) rfl dX4_begin_50 ?_
    refine V.bipush (v := nI 64) (by decide) dX4_begin_51 ?_
    refine V.icmp_geN (tgt := 71) dX4_begin_53 (by decide) (by omega) (by omega) (fun c2 => ?_) (fun c2 => ?_)
    · exact absurd c2 (by omega)
    · refine V.aload_n (j := 0) rfl dX4_begin_56 ?_
      refine V.getr (q := 49) dX4_begin_57 fX4_18 rfl rfl ?_
      refine V.iload_n (j := 2) rfl dX4_begin_60 ?_
      refine V.aload_n (j := 1) rfl dX4_begin_61 ?_
      refine V.iload_n (j := 2) rfl dX4_begin_62 ?_
      refine V.lda (v := A 35 i) dX4_begin_63 rfl (by omega) (by decide) rfl ?_
      refine V.sta (g := upd f i (A 35 i)) dX4_begin_64 rfl (by omega) (by decide) rfl ?_
      refine V.hpe (A' := (upA A 49 (upd f i (A 35 i)))) rfl upA_u ?_
      refine V.iincN (ls' := [(0, .ref 46), (1, .ref 35), (2, .int (nI (i + 1)))]) dX4_begin_65 (j := 2) rfl (by decide) rfl ?_
      refine V.goto (tgt := 50) dX4_begin_68 (by decide) ?_
      exact ih (i + 1) _ (by omega) hk
set_option maxRecDepth 100000 in
set_option maxHeartbeats 4000000 in
theorem cd_begin46 {G : am_G} (I A : Nat → Nat → Int32)  : Cm G MX4_begin 0 0 [.ref 46, .ref 35] I A (fun r I' A' => r = none ∧ upI (upI I 46 4 (nI 0)) 46 5 (nI 0) = I' ∧ (upA (upA (upA A 47 (mz_fill 32 0 (A 47))) 48 (mz_fill 48 0 (A 48))) 49 (mz_cpf (A 35) 64 0 (A 49))) = A') := by
  refine Cm.of (by decide) (Nat.le_of_ble_eq_true rfl) rfl ?_
  show V G MX4_begin (am_R 0 0 0 0) _ 0 0 0 [(0, .ref 46), (1, .ref 35)] [] (hp I A)
  refine V.iconst (v := nI 0) (by decide) dX4_begin_0 ?_
  refine V.istore_n (ls' := [(0, .ref 46), (1, .ref 35), (2, .int (nI 0))]) dX4_begin_1 (by decide) rfl ?_
  refine V.hpe (A' := (upA A 47 (A 47))) rfl (by rw [upA_i]) ?_
  refine cl_beg46_1 I A 32 0 _ (by omega) ?_
  refine V.iconst (v := nI 0) (by decide) dX4_begin_24 ?_
  refine V.istore_n (ls' := [(0, .ref 46), (1, .ref 35), (2, .int (nI 0))]) dX4_begin_25 (by decide) rfl ?_
  refine V.hpe (A' := (upA (upA A 47 (mz_fill 32 0 (A 47))) 48 (A 48))) rfl (by rw [show A 48 = (upA A 47 (mz_fill 32 0 (A 47))) 48 from rfl, upA_i]) ?_
  refine cl_beg46_2 I (upA A 47 (mz_fill 32 0 (A 47))) 48 0 _ (by omega) ?_
  refine V.iconst (v := nI 0) (by decide) dX4_begin_48 ?_
  refine V.istore_n (ls' := [(0, .ref 46), (1, .ref 35), (2, .int (nI 0))]) dX4_begin_49 (by decide) rfl ?_
  refine V.hpe (A' := (upA (upA (upA A 47 (mz_fill 32 0 (A 47))) 48 (mz_fill 48 0 (A 48))) 49 (A 49))) rfl (by rw [show A 49 = (upA (upA A 47 (mz_fill 32 0 (A 47))) 48 (mz_fill 48 0 (A 48))) 49 from rfl, upA_i]) ?_
  refine cl_beg46_3 I (upA (upA A 47 (mz_fill 32 0 (A 47))) 48 (mz_fill 48 0 (A 48))) 64 0 _ (by omega) ?_
  refine V.aload_n (j := 0) rfl dX4_begin_71 ?_
  refine V.iconst (v := nI 0) (by decide) dX4_begin_72 ?_
  refine V.puti dX4_begin_73 pX4_24 rfl rfl ?_
  refine V.aload_n (j := 0) rfl dX4_begin_76 ?_
  refine V.iconst (v := nI 0) (by decide) dX4_begin_77 ?_
  refine V.puti dX4_begin_78 pX4_28 rfl rfl ?_
  refine V.rv dX4_begin_81 rfl ?_
  exact ⟨rfl, rfl, rfl⟩
theorem cz_MM46 {A : Nat → Nat → Int32} {f g h k f' g' h' k' : Nat → Int32} : upA (upA (upA (upA (upA (upA (upA (upA A 47 f) 49 g) 50 h) 48 k) 47 f') 49 g') 50 h') 48 k' = upA (upA (upA (upA A 47 f') 49 g') 50 h') 48 k' := by
  rw [upA_r4 (a := 47) (b := 49) (c := 50) (d := 48) (by decide) (by decide) (by decide), upA_r3 (a := 49) (b := 50) (c := 48) (by decide) (by decide), upA_r2 (a := 50) (b := 48) (by decide), upA_u]
theorem cz_MB46 {A : Nat → Nat → Int32} {f g k : Nat → Int32} : upA (upA (upA A 47 f) 48 k) 49 g = upA (upA (upA (upA A 47 f) 49 g) 50 (A 50)) 48 k := by
  rw [show A 50 = (upA (upA A 47 f) 49 g) 50 from rfl, upA_i, upA_c (a := 48) (b := 49) (by decide)]
theorem cz_d1_t {o x y z : Nat → Int32} {i : Nat} (h : cz_iw o x y z i) {hd l sd sl : Nat → Int32} {t : Nat} : (cz_d1 o x y z i hd l sd sl t).2.2.2.2.1 ≤ t + 1 := by
  obtain ⟨k, hk, ek, -⟩ := h
  unfold cz_d1 mz_di1
  rw [Nat.zero_add, cz_c_0, ek, nI_clamp (by omega)]
  rcases (show k = 0 ∨ k = 1 ∨ k = 2 ∨ k = 3 ∨ k = 4 ∨ k = 5 ∨ k = 6 ∨ k = 7 ∨ k = 8 ∨ k = 9 ∨ k = 10 ∨ k = 11 ∨ k = 12 by omega) with rfl | rfl | rfl | rfl | rfl | rfl | rfl | rfl | rfl | rfl | rfl | rfl | rfl
  · exact Nat.le_succ _
  · exact Nat.le_succ _
  · exact Nat.le_succ _
  · exact Nat.le_succ _
  · exact Nat.le_succ _
  · exact Nat.le_succ _
  · exact Nat.le_succ _
  · exact Nat.le_succ _
  · exact Nat.le_succ _
  · exact Nat.le_refl _
  · exact Nat.le_succ _
  · exact Nat.le_succ _
  · exact Nat.le_succ _
set_option maxRecDepth 100000 in
set_option maxHeartbeats 4000000 in
theorem cl_ends36_4 {G : am_G} {Fn : Array Value → State → List Frame → State → Prop} (I A : Nat → Nat → Int32) (n : Nat) (hn : I 4 4 = nI n) (hN : n ≤ 60) (hiw : ∀ i, i < n → cz_iw (A 5) (A 6) (A 7) (A 8) i) (h10 : ∀ i, i < n → ∀ k, A 5 i = nI k → k ≤ 12 → k ≤ 10) (g : Nat) (hg : g ≤ 2000) : ∀ (m : Nat) (at_ : Nat) (q : Nat) (j : Nat) (hd : Nat → Int32) (l : Nat → Int32) (sd : Nat → Int32) (sv : Nat → Int32) (t : Nat), j + m = g → q ≤ 401 → (q = at_ ∨ (n ≤ q ∧ n ≤ at_)) → t ≤ j → (∀ (q' : Nat) (s' : Nat → Int32), (q' = (mz_rnI n (cz_c (A 5) (A 6) (A 7) (A 8)) 0 m at_ j hd l sd (cz_sl sv) t).1 ∨ (n ≤ q' ∧ n ≤ (mz_rnI n (cz_c (A 5) (A 6) (A 7) (A 8)) 0 m at_ j hd l sd (cz_sl sv) t).1)) → q' ≤ 401 → cz_sl s' = (mz_rnI n (cz_c (A 5) (A 6) (A 7) (A 8)) 0 m at_ j hd l sd (cz_sl sv) t).2.2.2.2.2.1 → V G MX4_endsWithin (am_R 4 91 0 0) Fn 0 0 47 [(2, .ref 4), (4, .int (nI q'))] [] (hp (upI (upI I 36 5 (nI (mz_rnI n (cz_c (A 5) (A 6) (A 7) (A 8)) 0 m at_ j hd l sd (cz_sl sv) t).2.1)) 36 4 (nI (mz_rnI n (cz_c (A 5) (A 6) (A 7) (A 8)) 0 m at_ j hd l sd (cz_sl sv) t).2.2.2.2.2.2)) (upA (upA (upA (upA A 37 (mz_rnI n (cz_c (A 5) (A 6) (A 7) (A 8)) 0 m at_ j hd l sd (cz_sl sv) t).2.2.1) 39 (mz_rnI n (cz_c (A 5) (A 6) (A 7) (A 8)) 0 m at_ j hd l sd (cz_sl sv) t).2.2.2.1) 40 (mz_rnI n (cz_c (A 5) (A 6) (A 7) (A 8)) 0 m at_ j hd l sd (cz_sl sv) t).2.2.2.2.1) 38 s'))) → V G MX4_endsWithin (am_R 4 91 0 0) Fn 0 0 8 [(0, .ref 36), (1, .int (nI g)), (2, .ref 4), (3, .ref 35), (4, .int (nI q))] [] (hp (upI (upI I 36 5 (nI j)) 36 4 (nI t)) (upA (upA (upA (upA A 37 (hd)) 39 (l)) 40 (sd)) 38 (sv))) := by
  intro m
  induction m with
  | zero =>
    intro at_ q j hd l sd sv t hi0 hi1 hi2 hi3 hk
    refine V.iload (j := 4) rfl dX4_endsWithin_8 ?_
    refine V.aload_n (j := 2) rfl dX4_endsWithin_10 ?_
    refine V.geti (v := nI n) dX4_endsWithin_11 fX4_35 rfl rfl hn ?_
    refine V.icmp_geN (tgt := 47) dX4_endsWithin_14 (by decide) (by omega) (by omega) (fun c1 => ?_) (fun c1 => ?_)
    · refine V.fewer [2, 4] rfl ?_
      exact hk q sv hi2 hi1 rfl
    · refine V.aload_n (j := 0) rfl dX4_endsWithin_17 ?_
      refine V.geti (v := nI j) dX4_endsWithin_18 fX4_28 rfl rfl rfl ?_
      refine V.iload_n (j := 1) rfl dX4_endsWithin_21 ?_
      refine V.icmp_geN (tgt := 47) dX4_endsWithin_22 (by decide) (by omega) (by omega) (fun c2 => ?_) (fun c2 => ?_)
      · refine V.fewer [2, 4] rfl ?_
        exact hk q sv hi2 hi1 rfl
      · exact absurd c2 (by omega)
  | succ m ih =>
    intro at_ q j hd l sd sv t hi0 hi1 hi2 hi3 hk
    refine V.iload (j := 4) rfl dX4_endsWithin_8 ?_
    refine V.aload_n (j := 2) rfl dX4_endsWithin_10 ?_
    refine V.geti (v := nI n) dX4_endsWithin_11 fX4_35 rfl rfl hn ?_
    refine V.icmp_geN (tgt := 47) dX4_endsWithin_14 (by decide) (by omega) (by omega) (fun c3 => ?_) (fun c3 => ?_)
    · refine V.fewer [2, 4] rfl ?_
      have hat : n ≤ at_ := by omega
      unfold mz_rnI at hk
      rw [if_pos hat] at hk
      exact hk q sv hi2 hi1 rfl
    · refine V.aload_n (j := 0) rfl dX4_endsWithin_17 ?_
      refine V.geti (v := nI j) dX4_endsWithin_18 fX4_28 rfl rfl rfl ?_
      refine V.iload_n (j := 1) rfl dX4_endsWithin_21 ?_
      refine V.icmp_geN (tgt := 47) dX4_endsWithin_22 (by decide) (by omega) (by omega) (fun c4 => ?_) (fun c4 => ?_)
      · exact absurd c4 (by omega)
      · refine V.aload_n (j := 0) rfl dX4_endsWithin_25 ?_
        refine V.dup rfl dX4_endsWithin_26 ?_
        refine V.geti (v := nI j) dX4_endsWithin_27 fX4_28 rfl rfl rfl ?_
        refine V.iconst (v := nI 1) (by decide) dX4_endsWithin_30 ?_
        refine V.iaddN dX4_endsWithin_31 ?_
        refine V.puti dX4_endsWithin_32 pX4_28 rfl rfl ?_
        refine V.aload_n (j := 0) rfl dX4_endsWithin_35 ?_
        refine V.aload_n (j := 2) rfl dX4_endsWithin_36 ?_
        refine V.iload (j := 4) rfl dX4_endsWithin_37 ?_
        refine V.cV (As := [.ref 4, .int (nI q)]) (st := []) dX4_endsWithin_39 sX4_40 iX4_lineBehind lX4_lineBehind rfl rfl (cd_line36_4 (upI (upI (upI I 36 5 (nI j)) 36 4 (nI t)) 36 5 (nI (j + 1))) (upA (upA (upA (upA A 37 (hd)) 39 (l)) 40 (sd)) 38 (sv)) n hn hN q (by omega) t rfl (by omega) (hiw q (by omega)) (h10 q (by omega))) ⟨by decide, by decide⟩ (Nat.le_of_ble_eq_true rfl) rfl (fun r I' A' hq => ?_)
        obtain ⟨q2, s2, hq2, rfl, hpos, hsl, rfl, rfl⟩ := hq
        refine V.st (st' := [.int (nI q2)]) rfl ?_
        refine V.hpe (I' := (upI (upI I 36 5 (nI (j + 1))) 36 4 (nI ((cz_d1 (A 5) (A 6) (A 7) (A 8) q hd l sd (cz_sl sv) t).2.2.2.2.1)))) (A' := (upA (upA (upA (upA A 37 ((cz_d1 (A 5) (A 6) (A 7) (A 8) q hd l sd (cz_sl sv) t).1)) 39 ((cz_d1 (A 5) (A 6) (A 7) (A 8) q hd l sd (cz_sl sv) t).2.1)) 40 ((cz_d1 (A 5) (A 6) (A 7) (A 8) q hd l sd (cz_sl sv) t).2.2.1)) 38 (s2))) cz_up5 (cz_MM36 (A := A) (f := hd) (g := l) (h := sd) (k := sv) (f' := (cz_d1 (A 5) (A 6) (A 7) (A 8) q hd l sd (cz_sl sv) t).1) (g' := (cz_d1 (A 5) (A 6) (A 7) (A 8) q hd l sd (cz_sl sv) t).2.1) (h' := (cz_d1 (A 5) (A 6) (A 7) (A 8) q hd l sd (cz_sl sv) t).2.2.1) (k' := s2)) ?_
        refine V.istore (ls' := [(0, .ref 36), (1, .int (nI g)), (2, .ref 4), (3, .ref 35), (4, .int (nI q2))]) dX4_endsWithin_42 (by decide) rfl ?_
        refine V.goto (tgt := 8) dX4_endsWithin_44 (by decide) ?_
        have hqa : q = at_ := by omega
        subst hqa
        have eD : mz_di1 (cz_c (A 5) (A 6) (A 7) (A 8)) 0 q hd l sd (cz_sl sv) t = (cz_d1 (A 5) (A 6) (A 7) (A 8) q hd l sd (cz_sl sv) t) := rfl
        have hsl : cz_sl s2 = (cz_d1 (A 5) (A 6) (A 7) (A 8) q hd l sd (cz_sl sv) t).2.2.2.1 := hsl
        have hpos : q2 = (cz_d1 (A 5) (A 6) (A 7) (A 8) q hd l sd (cz_sl sv) t).2.2.2.2.2 ∨ (n ≤ q2 ∧ n ≤ (cz_d1 (A 5) (A 6) (A 7) (A 8) q hd l sd (cz_sl sv) t).2.2.2.2.2) := hpos
        unfold mz_rnI at hk
        rw [if_neg (by omega), eD, ← hsl] at hk
        have ht1 := cz_d1_t (hiw q (by omega)) (hd := hd) (l := l) (sd := sd) (sl := cz_sl sv) (t := t)
        exact ih _ _ _ _ _ _ _ _ (by omega) hq2 hpos (by omega) hk
set_option maxRecDepth 100000 in
set_option maxHeartbeats 4000000 in
theorem cd_ends36_4 {G : am_G} (I A : Nat → Nat → Int32) (n : Nat) (hn : I 4 4 = nI n) (hN : n ≤ 60) (hiw : ∀ i, i < n → cz_iw (A 5) (A 6) (A 7) (A 8) i) (h10 : ∀ i, i < n → ∀ k, A 5 i = nI k → k ≤ 12 → k ≤ 10) (g : Nat) (hg : g ≤ 2000) : Cm G MX4_endsWithin 4 91 [.ref 36, .int (nI g), .ref 4, .ref 35] I A (fun r I' A' => r = some (.int (bI (n ≤ (mz_rnI n (cz_c (A 5) (A 6) (A 7) (A 8)) 0 g 0 0 (mz_fill 32 0 (A 37)) (mz_cpf (A 35) 64 0 (A 39)) (A 40) (cz_sl (mz_fill 48 0 (A 38))) 0).1))) ∧ upI (upI I 36 5 (nI (mz_rnI n (cz_c (A 5) (A 6) (A 7) (A 8)) 0 g 0 0 (mz_fill 32 0 (A 37)) (mz_cpf (A 35) 64 0 (A 39)) (A 40) (cz_sl (mz_fill 48 0 (A 38))) 0).2.1)) 36 4 (nI (mz_rnI n (cz_c (A 5) (A 6) (A 7) (A 8)) 0 g 0 0 (mz_fill 32 0 (A 37)) (mz_cpf (A 35) 64 0 (A 39)) (A 40) (cz_sl (mz_fill 48 0 (A 38))) 0).2.2.2.2.2.2) = I' ∧ ∃ s', upA (upA (upA (upA A 37 (mz_rnI n (cz_c (A 5) (A 6) (A 7) (A 8)) 0 g 0 0 (mz_fill 32 0 (A 37)) (mz_cpf (A 35) 64 0 (A 39)) (A 40) (cz_sl (mz_fill 48 0 (A 38))) 0).2.2.1) 39 (mz_rnI n (cz_c (A 5) (A 6) (A 7) (A 8)) 0 g 0 0 (mz_fill 32 0 (A 37)) (mz_cpf (A 35) 64 0 (A 39)) (A 40) (cz_sl (mz_fill 48 0 (A 38))) 0).2.2.2.1) 40 (mz_rnI n (cz_c (A 5) (A 6) (A 7) (A 8)) 0 g 0 0 (mz_fill 32 0 (A 37)) (mz_cpf (A 35) 64 0 (A 39)) (A 40) (cz_sl (mz_fill 48 0 (A 38))) 0).2.2.2.2.1) 38 s' = A') := by
  refine Cm.of (by decide) (Nat.le_of_ble_eq_true rfl) rfl ?_
  show V G MX4_endsWithin (am_R 4 91 0 0) _ 0 0 0 [(0, .ref 36), (1, .int (nI g)), (2, .ref 4), (3, .ref 35)] [] (hp I A)
  refine V.aload_n (j := 0) rfl dX4_endsWithin_0 ?_
  refine V.aload_n (j := 3) rfl dX4_endsWithin_1 ?_
  refine V.cV (As := [.ref 35]) (st := []) dX4_endsWithin_2 sX4_31 iX4_begin lX4_begin rfl rfl (cd_begin36 I A) ⟨by decide, by decide⟩ (Nat.le_of_ble_eq_true rfl) rfl (fun r I' A' hq => ?_)
  obtain ⟨rfl, rfl, rfl⟩ := hq
  refine V.st (st' := []) rfl ?_
  refine V.iconst (v := nI 0) (by decide) dX4_endsWithin_5 ?_
  refine V.istore (ls' := [(0, .ref 36), (1, .int (nI g)), (2, .ref 4), (3, .ref 35), (4, .int (nI 0))]) dX4_endsWithin_6 (by decide) rfl ?_
  refine V.hpe (I' := (upI (upI I 36 5 (nI 0)) 36 4 (nI 0))) (A' := (upA (upA (upA (upA A 37 (mz_fill 32 0 (A 37))) 39 (mz_cpf (A 35) 64 0 (A 39))) 40 (A 40)) 38 (mz_fill 48 0 (A 38)))) cz_up54 cz_MB36 ?_
  refine cl_ends36_4 I A n hn hN hiw h10 g hg g 0 0 0 _ _ _ _ 0 (by omega) (by omega) (Or.inl rfl) (by omega) (fun q s h1 h2 h3 => ?_)
  refine V.iload (j := 1) rfl dX4_endsWithin_47 ?_
  refine V.aload_n (j := 0) rfl dX4_endsWithin_49 ?_
  refine V.geti (v := nI n) dX4_endsWithin_50 fX4_35 rfl rfl hn ?_
  refine V.icmp_ltN (tgt := 60) dX4_endsWithin_53 (by decide) (by omega) (by omega) (fun c => ?_) (fun c => ?_)
  · refine V.iconst (v := nI 0) (by decide) dX4_endsWithin_60 ?_
    refine V.rz dX4_endsWithin_61 rfl (by decide) ?_
    exact ⟨am_s0 (by omega), rfl, s, rfl⟩
  · refine V.iconst (v := nI 1) (by decide) dX4_endsWithin_56 ?_
    refine V.goto (tgt := 61) dX4_endsWithin_57 (by decide) ?_
    refine V.rz dX4_endsWithin_61 rfl (by decide) ?_
    exact ⟨am_s1 (by omega), rfl, s, rfl⟩
set_option maxRecDepth 100000 in
set_option maxHeartbeats 4000000 in
theorem cl_ends36_25 {G : am_G} {Fn : Array Value → State → List Frame → State → Prop} (I A : Nat → Nat → Int32) (n : Nat) (hn : I 25 4 = nI n) (hN : n ≤ 240) (hiw : ∀ i, i < n → cz_iw (A 26) (A 27) (A 28) (A 29) i) (g : Nat) (hg : g ≤ 2000) : ∀ (m : Nat) (at_ : Nat) (q : Nat) (j : Nat) (hd : Nat → Int32) (l : Nat → Int32) (sd : Nat → Int32) (sv : Nat → Int32) (t : Nat), j + m = g → q ≤ 401 → (q = at_ ∨ (n ≤ q ∧ n ≤ at_)) → t ≤ j → (∀ (q' : Nat) (s' : Nat → Int32), (q' = (mz_rnI n (cz_c (A 26) (A 27) (A 28) (A 29)) 0 m at_ j hd l sd (cz_sl sv) t).1 ∨ (n ≤ q' ∧ n ≤ (mz_rnI n (cz_c (A 26) (A 27) (A 28) (A 29)) 0 m at_ j hd l sd (cz_sl sv) t).1)) → q' ≤ 401 → cz_sl s' = (mz_rnI n (cz_c (A 26) (A 27) (A 28) (A 29)) 0 m at_ j hd l sd (cz_sl sv) t).2.2.2.2.2.1 → V G MX4_endsWithin (am_R 4 91 0 0) Fn 0 0 47 [(2, .ref 25), (4, .int (nI q'))] [] (hp (upI (upI I 36 5 (nI (mz_rnI n (cz_c (A 26) (A 27) (A 28) (A 29)) 0 m at_ j hd l sd (cz_sl sv) t).2.1)) 36 4 (nI (mz_rnI n (cz_c (A 26) (A 27) (A 28) (A 29)) 0 m at_ j hd l sd (cz_sl sv) t).2.2.2.2.2.2)) (upA (upA (upA (upA A 37 (mz_rnI n (cz_c (A 26) (A 27) (A 28) (A 29)) 0 m at_ j hd l sd (cz_sl sv) t).2.2.1) 39 (mz_rnI n (cz_c (A 26) (A 27) (A 28) (A 29)) 0 m at_ j hd l sd (cz_sl sv) t).2.2.2.1) 40 (mz_rnI n (cz_c (A 26) (A 27) (A 28) (A 29)) 0 m at_ j hd l sd (cz_sl sv) t).2.2.2.2.1) 38 s'))) → V G MX4_endsWithin (am_R 4 91 0 0) Fn 0 0 8 [(0, .ref 36), (1, .int (nI g)), (2, .ref 25), (3, .ref 35), (4, .int (nI q))] [] (hp (upI (upI I 36 5 (nI j)) 36 4 (nI t)) (upA (upA (upA (upA A 37 (hd)) 39 (l)) 40 (sd)) 38 (sv))) := by
  intro m
  induction m with
  | zero =>
    intro at_ q j hd l sd sv t hi0 hi1 hi2 hi3 hk
    refine V.iload (j := 4) rfl dX4_endsWithin_8 ?_
    refine V.aload_n (j := 2) rfl dX4_endsWithin_10 ?_
    refine V.geti (v := nI n) dX4_endsWithin_11 fX4_35 rfl rfl hn ?_
    refine V.icmp_geN (tgt := 47) dX4_endsWithin_14 (by decide) (by omega) (by omega) (fun c1 => ?_) (fun c1 => ?_)
    · refine V.fewer [2, 4] rfl ?_
      exact hk q sv hi2 hi1 rfl
    · refine V.aload_n (j := 0) rfl dX4_endsWithin_17 ?_
      refine V.geti (v := nI j) dX4_endsWithin_18 fX4_28 rfl rfl rfl ?_
      refine V.iload_n (j := 1) rfl dX4_endsWithin_21 ?_
      refine V.icmp_geN (tgt := 47) dX4_endsWithin_22 (by decide) (by omega) (by omega) (fun c2 => ?_) (fun c2 => ?_)
      · refine V.fewer [2, 4] rfl ?_
        exact hk q sv hi2 hi1 rfl
      · exact absurd c2 (by omega)
  | succ m ih =>
    intro at_ q j hd l sd sv t hi0 hi1 hi2 hi3 hk
    refine V.iload (j := 4) rfl dX4_endsWithin_8 ?_
    refine V.aload_n (j := 2) rfl dX4_endsWithin_10 ?_
    refine V.geti (v := nI n) dX4_endsWithin_11 fX4_35 rfl rfl hn ?_
    refine V.icmp_geN (tgt := 47) dX4_endsWithin_14 (by decide) (by omega) (by omega) (fun c3 => ?_) (fun c3 => ?_)
    · refine V.fewer [2, 4] rfl ?_
      have hat : n ≤ at_ := by omega
      unfold mz_rnI at hk
      rw [if_pos hat] at hk
      exact hk q sv hi2 hi1 rfl
    · refine V.aload_n (j := 0) rfl dX4_endsWithin_17 ?_
      refine V.geti (v := nI j) dX4_endsWithin_18 fX4_28 rfl rfl rfl ?_
      refine V.iload_n (j := 1) rfl dX4_endsWithin_21 ?_
      refine V.icmp_geN (tgt := 47) dX4_endsWithin_22 (by decide) (by omega) (by omega) (fun c4 => ?_) (fun c4 => ?_)
      · exact absurd c4 (by omega)
      · refine V.aload_n (j := 0) rfl dX4_endsWithin_25 ?_
        refine V.dup rfl dX4_endsWithin_26 ?_
        refine V.geti (v := nI j) dX4_endsWithin_27 fX4_28 rfl rfl rfl ?_
        refine V.iconst (v := nI 1) (by decide) dX4_endsWithin_30 ?_
        refine V.iaddN dX4_endsWithin_31 ?_
        refine V.puti dX4_endsWithin_32 pX4_28 rfl rfl ?_
        refine V.aload_n (j := 0) rfl dX4_endsWithin_35 ?_
        refine V.aload_n (j := 2) rfl dX4_endsWithin_36 ?_
        refine V.iload (j := 4) rfl dX4_endsWithin_37 ?_
        refine V.cV (As := [.ref 25, .int (nI q)]) (st := []) dX4_endsWithin_39 sX4_40 iX4_lineBehind lX4_lineBehind rfl rfl (cd_line36_25 (upI (upI (upI I 36 5 (nI j)) 36 4 (nI t)) 36 5 (nI (j + 1))) (upA (upA (upA (upA A 37 (hd)) 39 (l)) 40 (sd)) 38 (sv)) n hn hN q (by omega) t rfl (by omega) (hiw q (by omega))) ⟨by decide, by decide⟩ (Nat.le_of_ble_eq_true rfl) rfl (fun r I' A' hq => ?_)
        obtain ⟨q2, s2, hq2, rfl, hpos, hsl, rfl, rfl⟩ := hq
        refine V.st (st' := [.int (nI q2)]) rfl ?_
        refine V.hpe (I' := (upI (upI I 36 5 (nI (j + 1))) 36 4 (nI ((cz_d1 (A 26) (A 27) (A 28) (A 29) q hd l sd (cz_sl sv) t).2.2.2.2.1)))) (A' := (upA (upA (upA (upA A 37 ((cz_d1 (A 26) (A 27) (A 28) (A 29) q hd l sd (cz_sl sv) t).1)) 39 ((cz_d1 (A 26) (A 27) (A 28) (A 29) q hd l sd (cz_sl sv) t).2.1)) 40 ((cz_d1 (A 26) (A 27) (A 28) (A 29) q hd l sd (cz_sl sv) t).2.2.1)) 38 (s2))) cz_up5 (cz_MM36 (A := A) (f := hd) (g := l) (h := sd) (k := sv) (f' := (cz_d1 (A 26) (A 27) (A 28) (A 29) q hd l sd (cz_sl sv) t).1) (g' := (cz_d1 (A 26) (A 27) (A 28) (A 29) q hd l sd (cz_sl sv) t).2.1) (h' := (cz_d1 (A 26) (A 27) (A 28) (A 29) q hd l sd (cz_sl sv) t).2.2.1) (k' := s2)) ?_
        refine V.istore (ls' := [(0, .ref 36), (1, .int (nI g)), (2, .ref 25), (3, .ref 35), (4, .int (nI q2))]) dX4_endsWithin_42 (by decide) rfl ?_
        refine V.goto (tgt := 8) dX4_endsWithin_44 (by decide) ?_
        have hqa : q = at_ := by omega
        subst hqa
        have eD : mz_di1 (cz_c (A 26) (A 27) (A 28) (A 29)) 0 q hd l sd (cz_sl sv) t = (cz_d1 (A 26) (A 27) (A 28) (A 29) q hd l sd (cz_sl sv) t) := rfl
        have hsl : cz_sl s2 = (cz_d1 (A 26) (A 27) (A 28) (A 29) q hd l sd (cz_sl sv) t).2.2.2.1 := hsl
        have hpos : q2 = (cz_d1 (A 26) (A 27) (A 28) (A 29) q hd l sd (cz_sl sv) t).2.2.2.2.2 ∨ (n ≤ q2 ∧ n ≤ (cz_d1 (A 26) (A 27) (A 28) (A 29) q hd l sd (cz_sl sv) t).2.2.2.2.2) := hpos
        unfold mz_rnI at hk
        rw [if_neg (by omega), eD, ← hsl] at hk
        have ht1 := cz_d1_t (hiw q (by omega)) (hd := hd) (l := l) (sd := sd) (sl := cz_sl sv) (t := t)
        exact ih _ _ _ _ _ _ _ _ (by omega) hq2 hpos (by omega) hk
set_option maxRecDepth 100000 in
set_option maxHeartbeats 4000000 in
theorem cd_ends36_25 {G : am_G} (I A : Nat → Nat → Int32) (n : Nat) (hn : I 25 4 = nI n) (hN : n ≤ 240) (hiw : ∀ i, i < n → cz_iw (A 26) (A 27) (A 28) (A 29) i) (g : Nat) (hg : g ≤ 2000) : Cm G MX4_endsWithin 4 91 [.ref 36, .int (nI g), .ref 25, .ref 35] I A (fun r I' A' => r = some (.int (bI (n ≤ (mz_rnI n (cz_c (A 26) (A 27) (A 28) (A 29)) 0 g 0 0 (mz_fill 32 0 (A 37)) (mz_cpf (A 35) 64 0 (A 39)) (A 40) (cz_sl (mz_fill 48 0 (A 38))) 0).1))) ∧ upI (upI I 36 5 (nI (mz_rnI n (cz_c (A 26) (A 27) (A 28) (A 29)) 0 g 0 0 (mz_fill 32 0 (A 37)) (mz_cpf (A 35) 64 0 (A 39)) (A 40) (cz_sl (mz_fill 48 0 (A 38))) 0).2.1)) 36 4 (nI (mz_rnI n (cz_c (A 26) (A 27) (A 28) (A 29)) 0 g 0 0 (mz_fill 32 0 (A 37)) (mz_cpf (A 35) 64 0 (A 39)) (A 40) (cz_sl (mz_fill 48 0 (A 38))) 0).2.2.2.2.2.2) = I' ∧ ∃ s', upA (upA (upA (upA A 37 (mz_rnI n (cz_c (A 26) (A 27) (A 28) (A 29)) 0 g 0 0 (mz_fill 32 0 (A 37)) (mz_cpf (A 35) 64 0 (A 39)) (A 40) (cz_sl (mz_fill 48 0 (A 38))) 0).2.2.1) 39 (mz_rnI n (cz_c (A 26) (A 27) (A 28) (A 29)) 0 g 0 0 (mz_fill 32 0 (A 37)) (mz_cpf (A 35) 64 0 (A 39)) (A 40) (cz_sl (mz_fill 48 0 (A 38))) 0).2.2.2.1) 40 (mz_rnI n (cz_c (A 26) (A 27) (A 28) (A 29)) 0 g 0 0 (mz_fill 32 0 (A 37)) (mz_cpf (A 35) 64 0 (A 39)) (A 40) (cz_sl (mz_fill 48 0 (A 38))) 0).2.2.2.2.1) 38 s' = A') := by
  refine Cm.of (by decide) (Nat.le_of_ble_eq_true rfl) rfl ?_
  show V G MX4_endsWithin (am_R 4 91 0 0) _ 0 0 0 [(0, .ref 36), (1, .int (nI g)), (2, .ref 25), (3, .ref 35)] [] (hp I A)
  refine V.aload_n (j := 0) rfl dX4_endsWithin_0 ?_
  refine V.aload_n (j := 3) rfl dX4_endsWithin_1 ?_
  refine V.cV (As := [.ref 35]) (st := []) dX4_endsWithin_2 sX4_31 iX4_begin lX4_begin rfl rfl (cd_begin36 I A) ⟨by decide, by decide⟩ (Nat.le_of_ble_eq_true rfl) rfl (fun r I' A' hq => ?_)
  obtain ⟨rfl, rfl, rfl⟩ := hq
  refine V.st (st' := []) rfl ?_
  refine V.iconst (v := nI 0) (by decide) dX4_endsWithin_5 ?_
  refine V.istore (ls' := [(0, .ref 36), (1, .int (nI g)), (2, .ref 25), (3, .ref 35), (4, .int (nI 0))]) dX4_endsWithin_6 (by decide) rfl ?_
  refine V.hpe (I' := (upI (upI I 36 5 (nI 0)) 36 4 (nI 0))) (A' := (upA (upA (upA (upA A 37 (mz_fill 32 0 (A 37))) 39 (mz_cpf (A 35) 64 0 (A 39))) 40 (A 40)) 38 (mz_fill 48 0 (A 38)))) cz_up54 cz_MB36 ?_
  refine cl_ends36_25 I A n hn hN hiw g hg g 0 0 0 _ _ _ _ 0 (by omega) (by omega) (Or.inl rfl) (by omega) (fun q s h1 h2 h3 => ?_)
  refine V.iload (j := 1) rfl dX4_endsWithin_47 ?_
  refine V.aload_n (j := 0) rfl dX4_endsWithin_49 ?_
  refine V.geti (v := nI n) dX4_endsWithin_50 fX4_35 rfl rfl hn ?_
  refine V.icmp_ltN (tgt := 60) dX4_endsWithin_53 (by decide) (by omega) (by omega) (fun c => ?_) (fun c => ?_)
  · refine V.iconst (v := nI 0) (by decide) dX4_endsWithin_60 ?_
    refine V.rz dX4_endsWithin_61 rfl (by decide) ?_
    exact ⟨am_s0 (by omega), rfl, s, rfl⟩
  · refine V.iconst (v := nI 1) (by decide) dX4_endsWithin_56 ?_
    refine V.goto (tgt := 61) dX4_endsWithin_57 (by decide) ?_
    refine V.rz dX4_endsWithin_61 rfl (by decide) ?_
    exact ⟨am_s1 (by omega), rfl, s, rfl⟩
set_option maxRecDepth 100000 in
set_option maxHeartbeats 4000000 in
theorem cl_ends36_30 {G : am_G} {Fn : Array Value → State → List Frame → State → Prop} (I A : Nat → Nat → Int32) (n : Nat) (hn : I 30 4 = nI n) (hN : n ≤ 240) (hiw : ∀ i, i < n → cz_iw (A 31) (A 32) (A 33) (A 34) i) (g : Nat) (hg : g ≤ 2000) : ∀ (m : Nat) (at_ : Nat) (q : Nat) (j : Nat) (hd : Nat → Int32) (l : Nat → Int32) (sd : Nat → Int32) (sv : Nat → Int32) (t : Nat), j + m = g → q ≤ 401 → (q = at_ ∨ (n ≤ q ∧ n ≤ at_)) → t ≤ j → (∀ (q' : Nat) (s' : Nat → Int32), (q' = (mz_rnI n (cz_c (A 31) (A 32) (A 33) (A 34)) 0 m at_ j hd l sd (cz_sl sv) t).1 ∨ (n ≤ q' ∧ n ≤ (mz_rnI n (cz_c (A 31) (A 32) (A 33) (A 34)) 0 m at_ j hd l sd (cz_sl sv) t).1)) → q' ≤ 401 → cz_sl s' = (mz_rnI n (cz_c (A 31) (A 32) (A 33) (A 34)) 0 m at_ j hd l sd (cz_sl sv) t).2.2.2.2.2.1 → V G MX4_endsWithin (am_R 4 91 0 0) Fn 0 0 47 [(2, .ref 30), (4, .int (nI q'))] [] (hp (upI (upI I 36 5 (nI (mz_rnI n (cz_c (A 31) (A 32) (A 33) (A 34)) 0 m at_ j hd l sd (cz_sl sv) t).2.1)) 36 4 (nI (mz_rnI n (cz_c (A 31) (A 32) (A 33) (A 34)) 0 m at_ j hd l sd (cz_sl sv) t).2.2.2.2.2.2)) (upA (upA (upA (upA A 37 (mz_rnI n (cz_c (A 31) (A 32) (A 33) (A 34)) 0 m at_ j hd l sd (cz_sl sv) t).2.2.1) 39 (mz_rnI n (cz_c (A 31) (A 32) (A 33) (A 34)) 0 m at_ j hd l sd (cz_sl sv) t).2.2.2.1) 40 (mz_rnI n (cz_c (A 31) (A 32) (A 33) (A 34)) 0 m at_ j hd l sd (cz_sl sv) t).2.2.2.2.1) 38 s'))) → V G MX4_endsWithin (am_R 4 91 0 0) Fn 0 0 8 [(0, .ref 36), (1, .int (nI g)), (2, .ref 30), (3, .ref 35), (4, .int (nI q))] [] (hp (upI (upI I 36 5 (nI j)) 36 4 (nI t)) (upA (upA (upA (upA A 37 (hd)) 39 (l)) 40 (sd)) 38 (sv))) := by
  intro m
  induction m with
  | zero =>
    intro at_ q j hd l sd sv t hi0 hi1 hi2 hi3 hk
    refine V.iload (j := 4) rfl dX4_endsWithin_8 ?_
    refine V.aload_n (j := 2) rfl dX4_endsWithin_10 ?_
    refine V.geti (v := nI n) dX4_endsWithin_11 fX4_35 rfl rfl hn ?_
    refine V.icmp_geN (tgt := 47) dX4_endsWithin_14 (by decide) (by omega) (by omega) (fun c1 => ?_) (fun c1 => ?_)
    · refine V.fewer [2, 4] rfl ?_
      exact hk q sv hi2 hi1 rfl
    · refine V.aload_n (j := 0) rfl dX4_endsWithin_17 ?_
      refine V.geti (v := nI j) dX4_endsWithin_18 fX4_28 rfl rfl rfl ?_
      refine V.iload_n (j := 1) rfl dX4_endsWithin_21 ?_
      refine V.icmp_geN (tgt := 47) dX4_endsWithin_22 (by decide) (by omega) (by omega) (fun c2 => ?_) (fun c2 => ?_)
      · refine V.fewer [2, 4] rfl ?_
        exact hk q sv hi2 hi1 rfl
      · exact absurd c2 (by omega)
  | succ m ih =>
    intro at_ q j hd l sd sv t hi0 hi1 hi2 hi3 hk
    refine V.iload (j := 4) rfl dX4_endsWithin_8 ?_
    refine V.aload_n (j := 2) rfl dX4_endsWithin_10 ?_
    refine V.geti (v := nI n) dX4_endsWithin_11 fX4_35 rfl rfl hn ?_
    refine V.icmp_geN (tgt := 47) dX4_endsWithin_14 (by decide) (by omega) (by omega) (fun c3 => ?_) (fun c3 => ?_)
    · refine V.fewer [2, 4] rfl ?_
      have hat : n ≤ at_ := by omega
      unfold mz_rnI at hk
      rw [if_pos hat] at hk
      exact hk q sv hi2 hi1 rfl
    · refine V.aload_n (j := 0) rfl dX4_endsWithin_17 ?_
      refine V.geti (v := nI j) dX4_endsWithin_18 fX4_28 rfl rfl rfl ?_
      refine V.iload_n (j := 1) rfl dX4_endsWithin_21 ?_
      refine V.icmp_geN (tgt := 47) dX4_endsWithin_22 (by decide) (by omega) (by omega) (fun c4 => ?_) (fun c4 => ?_)
      · exact absurd c4 (by omega)
      · refine V.aload_n (j := 0) rfl dX4_endsWithin_25 ?_
        refine V.dup rfl dX4_endsWithin_26 ?_
        refine V.geti (v := nI j) dX4_endsWithin_27 fX4_28 rfl rfl rfl ?_
        refine V.iconst (v := nI 1) (by decide) dX4_endsWithin_30 ?_
        refine V.iaddN dX4_endsWithin_31 ?_
        refine V.puti dX4_endsWithin_32 pX4_28 rfl rfl ?_
        refine V.aload_n (j := 0) rfl dX4_endsWithin_35 ?_
        refine V.aload_n (j := 2) rfl dX4_endsWithin_36 ?_
        refine V.iload (j := 4) rfl dX4_endsWithin_37 ?_
        refine V.cV (As := [.ref 30, .int (nI q)]) (st := []) dX4_endsWithin_39 sX4_40 iX4_lineBehind lX4_lineBehind rfl rfl (cd_line36_30 (upI (upI (upI I 36 5 (nI j)) 36 4 (nI t)) 36 5 (nI (j + 1))) (upA (upA (upA (upA A 37 (hd)) 39 (l)) 40 (sd)) 38 (sv)) n hn hN q (by omega) t rfl (by omega) (hiw q (by omega))) ⟨by decide, by decide⟩ (Nat.le_of_ble_eq_true rfl) rfl (fun r I' A' hq => ?_)
        obtain ⟨q2, s2, hq2, rfl, hpos, hsl, rfl, rfl⟩ := hq
        refine V.st (st' := [.int (nI q2)]) rfl ?_
        refine V.hpe (I' := (upI (upI I 36 5 (nI (j + 1))) 36 4 (nI ((cz_d1 (A 31) (A 32) (A 33) (A 34) q hd l sd (cz_sl sv) t).2.2.2.2.1)))) (A' := (upA (upA (upA (upA A 37 ((cz_d1 (A 31) (A 32) (A 33) (A 34) q hd l sd (cz_sl sv) t).1)) 39 ((cz_d1 (A 31) (A 32) (A 33) (A 34) q hd l sd (cz_sl sv) t).2.1)) 40 ((cz_d1 (A 31) (A 32) (A 33) (A 34) q hd l sd (cz_sl sv) t).2.2.1)) 38 (s2))) cz_up5 (cz_MM36 (A := A) (f := hd) (g := l) (h := sd) (k := sv) (f' := (cz_d1 (A 31) (A 32) (A 33) (A 34) q hd l sd (cz_sl sv) t).1) (g' := (cz_d1 (A 31) (A 32) (A 33) (A 34) q hd l sd (cz_sl sv) t).2.1) (h' := (cz_d1 (A 31) (A 32) (A 33) (A 34) q hd l sd (cz_sl sv) t).2.2.1) (k' := s2)) ?_
        refine V.istore (ls' := [(0, .ref 36), (1, .int (nI g)), (2, .ref 30), (3, .ref 35), (4, .int (nI q2))]) dX4_endsWithin_42 (by decide) rfl ?_
        refine V.goto (tgt := 8) dX4_endsWithin_44 (by decide) ?_
        have hqa : q = at_ := by omega
        subst hqa
        have eD : mz_di1 (cz_c (A 31) (A 32) (A 33) (A 34)) 0 q hd l sd (cz_sl sv) t = (cz_d1 (A 31) (A 32) (A 33) (A 34) q hd l sd (cz_sl sv) t) := rfl
        have hsl : cz_sl s2 = (cz_d1 (A 31) (A 32) (A 33) (A 34) q hd l sd (cz_sl sv) t).2.2.2.1 := hsl
        have hpos : q2 = (cz_d1 (A 31) (A 32) (A 33) (A 34) q hd l sd (cz_sl sv) t).2.2.2.2.2 ∨ (n ≤ q2 ∧ n ≤ (cz_d1 (A 31) (A 32) (A 33) (A 34) q hd l sd (cz_sl sv) t).2.2.2.2.2) := hpos
        unfold mz_rnI at hk
        rw [if_neg (by omega), eD, ← hsl] at hk
        have ht1 := cz_d1_t (hiw q (by omega)) (hd := hd) (l := l) (sd := sd) (sl := cz_sl sv) (t := t)
        exact ih _ _ _ _ _ _ _ _ (by omega) hq2 hpos (by omega) hk
set_option maxRecDepth 100000 in
set_option maxHeartbeats 4000000 in
theorem cd_ends36_30 {G : am_G} (I A : Nat → Nat → Int32) (n : Nat) (hn : I 30 4 = nI n) (hN : n ≤ 240) (hiw : ∀ i, i < n → cz_iw (A 31) (A 32) (A 33) (A 34) i) (g : Nat) (hg : g ≤ 2000) : Cm G MX4_endsWithin 4 91 [.ref 36, .int (nI g), .ref 30, .ref 35] I A (fun r I' A' => r = some (.int (bI (n ≤ (mz_rnI n (cz_c (A 31) (A 32) (A 33) (A 34)) 0 g 0 0 (mz_fill 32 0 (A 37)) (mz_cpf (A 35) 64 0 (A 39)) (A 40) (cz_sl (mz_fill 48 0 (A 38))) 0).1))) ∧ upI (upI I 36 5 (nI (mz_rnI n (cz_c (A 31) (A 32) (A 33) (A 34)) 0 g 0 0 (mz_fill 32 0 (A 37)) (mz_cpf (A 35) 64 0 (A 39)) (A 40) (cz_sl (mz_fill 48 0 (A 38))) 0).2.1)) 36 4 (nI (mz_rnI n (cz_c (A 31) (A 32) (A 33) (A 34)) 0 g 0 0 (mz_fill 32 0 (A 37)) (mz_cpf (A 35) 64 0 (A 39)) (A 40) (cz_sl (mz_fill 48 0 (A 38))) 0).2.2.2.2.2.2) = I' ∧ ∃ s', upA (upA (upA (upA A 37 (mz_rnI n (cz_c (A 31) (A 32) (A 33) (A 34)) 0 g 0 0 (mz_fill 32 0 (A 37)) (mz_cpf (A 35) 64 0 (A 39)) (A 40) (cz_sl (mz_fill 48 0 (A 38))) 0).2.2.1) 39 (mz_rnI n (cz_c (A 31) (A 32) (A 33) (A 34)) 0 g 0 0 (mz_fill 32 0 (A 37)) (mz_cpf (A 35) 64 0 (A 39)) (A 40) (cz_sl (mz_fill 48 0 (A 38))) 0).2.2.2.1) 40 (mz_rnI n (cz_c (A 31) (A 32) (A 33) (A 34)) 0 g 0 0 (mz_fill 32 0 (A 37)) (mz_cpf (A 35) 64 0 (A 39)) (A 40) (cz_sl (mz_fill 48 0 (A 38))) 0).2.2.2.2.1) 38 s' = A') := by
  refine Cm.of (by decide) (Nat.le_of_ble_eq_true rfl) rfl ?_
  show V G MX4_endsWithin (am_R 4 91 0 0) _ 0 0 0 [(0, .ref 36), (1, .int (nI g)), (2, .ref 30), (3, .ref 35)] [] (hp I A)
  refine V.aload_n (j := 0) rfl dX4_endsWithin_0 ?_
  refine V.aload_n (j := 3) rfl dX4_endsWithin_1 ?_
  refine V.cV (As := [.ref 35]) (st := []) dX4_endsWithin_2 sX4_31 iX4_begin lX4_begin rfl rfl (cd_begin36 I A) ⟨by decide, by decide⟩ (Nat.le_of_ble_eq_true rfl) rfl (fun r I' A' hq => ?_)
  obtain ⟨rfl, rfl, rfl⟩ := hq
  refine V.st (st' := []) rfl ?_
  refine V.iconst (v := nI 0) (by decide) dX4_endsWithin_5 ?_
  refine V.istore (ls' := [(0, .ref 36), (1, .int (nI g)), (2, .ref 30), (3, .ref 35), (4, .int (nI 0))]) dX4_endsWithin_6 (by decide) rfl ?_
  refine V.hpe (I' := (upI (upI I 36 5 (nI 0)) 36 4 (nI 0))) (A' := (upA (upA (upA (upA A 37 (mz_fill 32 0 (A 37))) 39 (mz_cpf (A 35) 64 0 (A 39))) 40 (A 40)) 38 (mz_fill 48 0 (A 38)))) cz_up54 cz_MB36 ?_
  refine cl_ends36_30 I A n hn hN hiw g hg g 0 0 0 _ _ _ _ 0 (by omega) (by omega) (Or.inl rfl) (by omega) (fun q s h1 h2 h3 => ?_)
  refine V.iload (j := 1) rfl dX4_endsWithin_47 ?_
  refine V.aload_n (j := 0) rfl dX4_endsWithin_49 ?_
  refine V.geti (v := nI n) dX4_endsWithin_50 fX4_35 rfl rfl hn ?_
  refine V.icmp_ltN (tgt := 60) dX4_endsWithin_53 (by decide) (by omega) (by omega) (fun c => ?_) (fun c => ?_)
  · refine V.iconst (v := nI 0) (by decide) dX4_endsWithin_60 ?_
    refine V.rz dX4_endsWithin_61 rfl (by decide) ?_
    exact ⟨am_s0 (by omega), rfl, s, rfl⟩
  · refine V.iconst (v := nI 1) (by decide) dX4_endsWithin_56 ?_
    refine V.goto (tgt := 61) dX4_endsWithin_57 (by decide) ?_
    refine V.rz dX4_endsWithin_61 rfl (by decide) ?_
    exact ⟨am_s1 (by omega), rfl, s, rfl⟩
set_option maxRecDepth 100000 in
set_option maxHeartbeats 4000000 in
theorem cl_ends41_4 {G : am_G} {Fn : Array Value → State → List Frame → State → Prop} (I A : Nat → Nat → Int32) (n : Nat) (hn : I 4 4 = nI n) (hN : n ≤ 60) (hiw : ∀ i, i < n → cz_iw (A 5) (A 6) (A 7) (A 8) i) (h10 : ∀ i, i < n → ∀ k, A 5 i = nI k → k ≤ 12 → k ≤ 10) (g : Nat) (hg : g ≤ 2000) : ∀ (m : Nat) (at_ : Nat) (q : Nat) (j : Nat) (hd : Nat → Int32) (l : Nat → Int32) (sd : Nat → Int32) (sv : Nat → Int32) (t : Nat), j + m = g → q ≤ 401 → (q = at_ ∨ (n ≤ q ∧ n ≤ at_)) → t ≤ j → (∀ (q' : Nat) (s' : Nat → Int32), (q' = (mz_rnI n (cz_c (A 5) (A 6) (A 7) (A 8)) 0 m at_ j hd l sd (cz_sl sv) t).1 ∨ (n ≤ q' ∧ n ≤ (mz_rnI n (cz_c (A 5) (A 6) (A 7) (A 8)) 0 m at_ j hd l sd (cz_sl sv) t).1)) → q' ≤ 401 → cz_sl s' = (mz_rnI n (cz_c (A 5) (A 6) (A 7) (A 8)) 0 m at_ j hd l sd (cz_sl sv) t).2.2.2.2.2.1 → V G MX4_endsWithin (am_R 4 91 0 0) Fn 0 0 47 [(2, .ref 4), (4, .int (nI q'))] [] (hp (upI (upI I 41 5 (nI (mz_rnI n (cz_c (A 5) (A 6) (A 7) (A 8)) 0 m at_ j hd l sd (cz_sl sv) t).2.1)) 41 4 (nI (mz_rnI n (cz_c (A 5) (A 6) (A 7) (A 8)) 0 m at_ j hd l sd (cz_sl sv) t).2.2.2.2.2.2)) (upA (upA (upA (upA A 42 (mz_rnI n (cz_c (A 5) (A 6) (A 7) (A 8)) 0 m at_ j hd l sd (cz_sl sv) t).2.2.1) 44 (mz_rnI n (cz_c (A 5) (A 6) (A 7) (A 8)) 0 m at_ j hd l sd (cz_sl sv) t).2.2.2.1) 45 (mz_rnI n (cz_c (A 5) (A 6) (A 7) (A 8)) 0 m at_ j hd l sd (cz_sl sv) t).2.2.2.2.1) 43 s'))) → V G MX4_endsWithin (am_R 4 91 0 0) Fn 0 0 8 [(0, .ref 41), (1, .int (nI g)), (2, .ref 4), (3, .ref 35), (4, .int (nI q))] [] (hp (upI (upI I 41 5 (nI j)) 41 4 (nI t)) (upA (upA (upA (upA A 42 (hd)) 44 (l)) 45 (sd)) 43 (sv))) := by
  intro m
  induction m with
  | zero =>
    intro at_ q j hd l sd sv t hi0 hi1 hi2 hi3 hk
    refine V.iload (j := 4) rfl dX4_endsWithin_8 ?_
    refine V.aload_n (j := 2) rfl dX4_endsWithin_10 ?_
    refine V.geti (v := nI n) dX4_endsWithin_11 fX4_35 rfl rfl hn ?_
    refine V.icmp_geN (tgt := 47) dX4_endsWithin_14 (by decide) (by omega) (by omega) (fun c1 => ?_) (fun c1 => ?_)
    · refine V.fewer [2, 4] rfl ?_
      exact hk q sv hi2 hi1 rfl
    · refine V.aload_n (j := 0) rfl dX4_endsWithin_17 ?_
      refine V.geti (v := nI j) dX4_endsWithin_18 fX4_28 rfl rfl rfl ?_
      refine V.iload_n (j := 1) rfl dX4_endsWithin_21 ?_
      refine V.icmp_geN (tgt := 47) dX4_endsWithin_22 (by decide) (by omega) (by omega) (fun c2 => ?_) (fun c2 => ?_)
      · refine V.fewer [2, 4] rfl ?_
        exact hk q sv hi2 hi1 rfl
      · exact absurd c2 (by omega)
  | succ m ih =>
    intro at_ q j hd l sd sv t hi0 hi1 hi2 hi3 hk
    refine V.iload (j := 4) rfl dX4_endsWithin_8 ?_
    refine V.aload_n (j := 2) rfl dX4_endsWithin_10 ?_
    refine V.geti (v := nI n) dX4_endsWithin_11 fX4_35 rfl rfl hn ?_
    refine V.icmp_geN (tgt := 47) dX4_endsWithin_14 (by decide) (by omega) (by omega) (fun c3 => ?_) (fun c3 => ?_)
    · refine V.fewer [2, 4] rfl ?_
      have hat : n ≤ at_ := by omega
      unfold mz_rnI at hk
      rw [if_pos hat] at hk
      exact hk q sv hi2 hi1 rfl
    · refine V.aload_n (j := 0) rfl dX4_endsWithin_17 ?_
      refine V.geti (v := nI j) dX4_endsWithin_18 fX4_28 rfl rfl rfl ?_
      refine V.iload_n (j := 1) rfl dX4_endsWithin_21 ?_
      refine V.icmp_geN (tgt := 47) dX4_endsWithin_22 (by decide) (by omega) (by omega) (fun c4 => ?_) (fun c4 => ?_)
      · exact absurd c4 (by omega)
      · refine V.aload_n (j := 0) rfl dX4_endsWithin_25 ?_
        refine V.dup rfl dX4_endsWithin_26 ?_
        refine V.geti (v := nI j) dX4_endsWithin_27 fX4_28 rfl rfl rfl ?_
        refine V.iconst (v := nI 1) (by decide) dX4_endsWithin_30 ?_
        refine V.iaddN dX4_endsWithin_31 ?_
        refine V.puti dX4_endsWithin_32 pX4_28 rfl rfl ?_
        refine V.aload_n (j := 0) rfl dX4_endsWithin_35 ?_
        refine V.aload_n (j := 2) rfl dX4_endsWithin_36 ?_
        refine V.iload (j := 4) rfl dX4_endsWithin_37 ?_
        refine V.cV (As := [.ref 4, .int (nI q)]) (st := []) dX4_endsWithin_39 sX4_40 iX4_lineBehind lX4_lineBehind rfl rfl (cd_line41_4 (upI (upI (upI I 41 5 (nI j)) 41 4 (nI t)) 41 5 (nI (j + 1))) (upA (upA (upA (upA A 42 (hd)) 44 (l)) 45 (sd)) 43 (sv)) n hn hN q (by omega) t rfl (by omega) (hiw q (by omega)) (h10 q (by omega))) ⟨by decide, by decide⟩ (Nat.le_of_ble_eq_true rfl) rfl (fun r I' A' hq => ?_)
        obtain ⟨q2, s2, hq2, rfl, hpos, hsl, rfl, rfl⟩ := hq
        refine V.st (st' := [.int (nI q2)]) rfl ?_
        refine V.hpe (I' := (upI (upI I 41 5 (nI (j + 1))) 41 4 (nI ((cz_d1 (A 5) (A 6) (A 7) (A 8) q hd l sd (cz_sl sv) t).2.2.2.2.1)))) (A' := (upA (upA (upA (upA A 42 ((cz_d1 (A 5) (A 6) (A 7) (A 8) q hd l sd (cz_sl sv) t).1)) 44 ((cz_d1 (A 5) (A 6) (A 7) (A 8) q hd l sd (cz_sl sv) t).2.1)) 45 ((cz_d1 (A 5) (A 6) (A 7) (A 8) q hd l sd (cz_sl sv) t).2.2.1)) 43 (s2))) cz_up5 (cz_MM41 (A := A) (f := hd) (g := l) (h := sd) (k := sv) (f' := (cz_d1 (A 5) (A 6) (A 7) (A 8) q hd l sd (cz_sl sv) t).1) (g' := (cz_d1 (A 5) (A 6) (A 7) (A 8) q hd l sd (cz_sl sv) t).2.1) (h' := (cz_d1 (A 5) (A 6) (A 7) (A 8) q hd l sd (cz_sl sv) t).2.2.1) (k' := s2)) ?_
        refine V.istore (ls' := [(0, .ref 41), (1, .int (nI g)), (2, .ref 4), (3, .ref 35), (4, .int (nI q2))]) dX4_endsWithin_42 (by decide) rfl ?_
        refine V.goto (tgt := 8) dX4_endsWithin_44 (by decide) ?_
        have hqa : q = at_ := by omega
        subst hqa
        have eD : mz_di1 (cz_c (A 5) (A 6) (A 7) (A 8)) 0 q hd l sd (cz_sl sv) t = (cz_d1 (A 5) (A 6) (A 7) (A 8) q hd l sd (cz_sl sv) t) := rfl
        have hsl : cz_sl s2 = (cz_d1 (A 5) (A 6) (A 7) (A 8) q hd l sd (cz_sl sv) t).2.2.2.1 := hsl
        have hpos : q2 = (cz_d1 (A 5) (A 6) (A 7) (A 8) q hd l sd (cz_sl sv) t).2.2.2.2.2 ∨ (n ≤ q2 ∧ n ≤ (cz_d1 (A 5) (A 6) (A 7) (A 8) q hd l sd (cz_sl sv) t).2.2.2.2.2) := hpos
        unfold mz_rnI at hk
        rw [if_neg (by omega), eD, ← hsl] at hk
        have ht1 := cz_d1_t (hiw q (by omega)) (hd := hd) (l := l) (sd := sd) (sl := cz_sl sv) (t := t)
        exact ih _ _ _ _ _ _ _ _ (by omega) hq2 hpos (by omega) hk
set_option maxRecDepth 100000 in
set_option maxHeartbeats 4000000 in
theorem cd_ends41_4 {G : am_G} (I A : Nat → Nat → Int32) (n : Nat) (hn : I 4 4 = nI n) (hN : n ≤ 60) (hiw : ∀ i, i < n → cz_iw (A 5) (A 6) (A 7) (A 8) i) (h10 : ∀ i, i < n → ∀ k, A 5 i = nI k → k ≤ 12 → k ≤ 10) (g : Nat) (hg : g ≤ 2000) : Cm G MX4_endsWithin 4 91 [.ref 41, .int (nI g), .ref 4, .ref 35] I A (fun r I' A' => r = some (.int (bI (n ≤ (mz_rnI n (cz_c (A 5) (A 6) (A 7) (A 8)) 0 g 0 0 (mz_fill 32 0 (A 42)) (mz_cpf (A 35) 64 0 (A 44)) (A 45) (cz_sl (mz_fill 48 0 (A 43))) 0).1))) ∧ upI (upI I 41 5 (nI (mz_rnI n (cz_c (A 5) (A 6) (A 7) (A 8)) 0 g 0 0 (mz_fill 32 0 (A 42)) (mz_cpf (A 35) 64 0 (A 44)) (A 45) (cz_sl (mz_fill 48 0 (A 43))) 0).2.1)) 41 4 (nI (mz_rnI n (cz_c (A 5) (A 6) (A 7) (A 8)) 0 g 0 0 (mz_fill 32 0 (A 42)) (mz_cpf (A 35) 64 0 (A 44)) (A 45) (cz_sl (mz_fill 48 0 (A 43))) 0).2.2.2.2.2.2) = I' ∧ ∃ s', upA (upA (upA (upA A 42 (mz_rnI n (cz_c (A 5) (A 6) (A 7) (A 8)) 0 g 0 0 (mz_fill 32 0 (A 42)) (mz_cpf (A 35) 64 0 (A 44)) (A 45) (cz_sl (mz_fill 48 0 (A 43))) 0).2.2.1) 44 (mz_rnI n (cz_c (A 5) (A 6) (A 7) (A 8)) 0 g 0 0 (mz_fill 32 0 (A 42)) (mz_cpf (A 35) 64 0 (A 44)) (A 45) (cz_sl (mz_fill 48 0 (A 43))) 0).2.2.2.1) 45 (mz_rnI n (cz_c (A 5) (A 6) (A 7) (A 8)) 0 g 0 0 (mz_fill 32 0 (A 42)) (mz_cpf (A 35) 64 0 (A 44)) (A 45) (cz_sl (mz_fill 48 0 (A 43))) 0).2.2.2.2.1) 43 s' = A') := by
  refine Cm.of (by decide) (Nat.le_of_ble_eq_true rfl) rfl ?_
  show V G MX4_endsWithin (am_R 4 91 0 0) _ 0 0 0 [(0, .ref 41), (1, .int (nI g)), (2, .ref 4), (3, .ref 35)] [] (hp I A)
  refine V.aload_n (j := 0) rfl dX4_endsWithin_0 ?_
  refine V.aload_n (j := 3) rfl dX4_endsWithin_1 ?_
  refine V.cV (As := [.ref 35]) (st := []) dX4_endsWithin_2 sX4_31 iX4_begin lX4_begin rfl rfl (cd_begin41 I A) ⟨by decide, by decide⟩ (Nat.le_of_ble_eq_true rfl) rfl (fun r I' A' hq => ?_)
  obtain ⟨rfl, rfl, rfl⟩ := hq
  refine V.st (st' := []) rfl ?_
  refine V.iconst (v := nI 0) (by decide) dX4_endsWithin_5 ?_
  refine V.istore (ls' := [(0, .ref 41), (1, .int (nI g)), (2, .ref 4), (3, .ref 35), (4, .int (nI 0))]) dX4_endsWithin_6 (by decide) rfl ?_
  refine V.hpe (I' := (upI (upI I 41 5 (nI 0)) 41 4 (nI 0))) (A' := (upA (upA (upA (upA A 42 (mz_fill 32 0 (A 42))) 44 (mz_cpf (A 35) 64 0 (A 44))) 45 (A 45)) 43 (mz_fill 48 0 (A 43)))) cz_up54 cz_MB41 ?_
  refine cl_ends41_4 I A n hn hN hiw h10 g hg g 0 0 0 _ _ _ _ 0 (by omega) (by omega) (Or.inl rfl) (by omega) (fun q s h1 h2 h3 => ?_)
  refine V.iload (j := 1) rfl dX4_endsWithin_47 ?_
  refine V.aload_n (j := 0) rfl dX4_endsWithin_49 ?_
  refine V.geti (v := nI n) dX4_endsWithin_50 fX4_35 rfl rfl hn ?_
  refine V.icmp_ltN (tgt := 60) dX4_endsWithin_53 (by decide) (by omega) (by omega) (fun c => ?_) (fun c => ?_)
  · refine V.iconst (v := nI 0) (by decide) dX4_endsWithin_60 ?_
    refine V.rz dX4_endsWithin_61 rfl (by decide) ?_
    exact ⟨am_s0 (by omega), rfl, s, rfl⟩
  · refine V.iconst (v := nI 1) (by decide) dX4_endsWithin_56 ?_
    refine V.goto (tgt := 61) dX4_endsWithin_57 (by decide) ?_
    refine V.rz dX4_endsWithin_61 rfl (by decide) ?_
    exact ⟨am_s1 (by omega), rfl, s, rfl⟩
set_option maxRecDepth 100000 in
set_option maxHeartbeats 4000000 in
theorem cl_ends46_25 {G : am_G} {Fn : Array Value → State → List Frame → State → Prop} (I A : Nat → Nat → Int32) (n : Nat) (hn : I 25 4 = nI n) (hN : n ≤ 240) (hiw : ∀ i, i < n → cz_iw (A 26) (A 27) (A 28) (A 29) i) (g : Nat) (hg : g ≤ 2000) : ∀ (m : Nat) (at_ : Nat) (q : Nat) (j : Nat) (hd : Nat → Int32) (l : Nat → Int32) (sd : Nat → Int32) (sv : Nat → Int32) (t : Nat), j + m = g → q ≤ 401 → (q = at_ ∨ (n ≤ q ∧ n ≤ at_)) → t ≤ j → (∀ (q' : Nat) (s' : Nat → Int32), (q' = (mz_rnI n (cz_c (A 26) (A 27) (A 28) (A 29)) 0 m at_ j hd l sd (cz_sl sv) t).1 ∨ (n ≤ q' ∧ n ≤ (mz_rnI n (cz_c (A 26) (A 27) (A 28) (A 29)) 0 m at_ j hd l sd (cz_sl sv) t).1)) → q' ≤ 401 → cz_sl s' = (mz_rnI n (cz_c (A 26) (A 27) (A 28) (A 29)) 0 m at_ j hd l sd (cz_sl sv) t).2.2.2.2.2.1 → V G MX4_endsWithin (am_R 4 91 0 0) Fn 0 0 47 [(2, .ref 25), (4, .int (nI q'))] [] (hp (upI (upI I 46 5 (nI (mz_rnI n (cz_c (A 26) (A 27) (A 28) (A 29)) 0 m at_ j hd l sd (cz_sl sv) t).2.1)) 46 4 (nI (mz_rnI n (cz_c (A 26) (A 27) (A 28) (A 29)) 0 m at_ j hd l sd (cz_sl sv) t).2.2.2.2.2.2)) (upA (upA (upA (upA A 47 (mz_rnI n (cz_c (A 26) (A 27) (A 28) (A 29)) 0 m at_ j hd l sd (cz_sl sv) t).2.2.1) 49 (mz_rnI n (cz_c (A 26) (A 27) (A 28) (A 29)) 0 m at_ j hd l sd (cz_sl sv) t).2.2.2.1) 50 (mz_rnI n (cz_c (A 26) (A 27) (A 28) (A 29)) 0 m at_ j hd l sd (cz_sl sv) t).2.2.2.2.1) 48 s'))) → V G MX4_endsWithin (am_R 4 91 0 0) Fn 0 0 8 [(0, .ref 46), (1, .int (nI g)), (2, .ref 25), (3, .ref 35), (4, .int (nI q))] [] (hp (upI (upI I 46 5 (nI j)) 46 4 (nI t)) (upA (upA (upA (upA A 47 (hd)) 49 (l)) 50 (sd)) 48 (sv))) := by
  intro m
  induction m with
  | zero =>
    intro at_ q j hd l sd sv t hi0 hi1 hi2 hi3 hk
    refine V.iload (j := 4) rfl dX4_endsWithin_8 ?_
    refine V.aload_n (j := 2) rfl dX4_endsWithin_10 ?_
    refine V.geti (v := nI n) dX4_endsWithin_11 fX4_35 rfl rfl hn ?_
    refine V.icmp_geN (tgt := 47) dX4_endsWithin_14 (by decide) (by omega) (by omega) (fun c1 => ?_) (fun c1 => ?_)
    · refine V.fewer [2, 4] rfl ?_
      exact hk q sv hi2 hi1 rfl
    · refine V.aload_n (j := 0) rfl dX4_endsWithin_17 ?_
      refine V.geti (v := nI j) dX4_endsWithin_18 fX4_28 rfl rfl rfl ?_
      refine V.iload_n (j := 1) rfl dX4_endsWithin_21 ?_
      refine V.icmp_geN (tgt := 47) dX4_endsWithin_22 (by decide) (by omega) (by omega) (fun c2 => ?_) (fun c2 => ?_)
      · refine V.fewer [2, 4] rfl ?_
        exact hk q sv hi2 hi1 rfl
      · exact absurd c2 (by omega)
  | succ m ih =>
    intro at_ q j hd l sd sv t hi0 hi1 hi2 hi3 hk
    refine V.iload (j := 4) rfl dX4_endsWithin_8 ?_
    refine V.aload_n (j := 2) rfl dX4_endsWithin_10 ?_
    refine V.geti (v := nI n) dX4_endsWithin_11 fX4_35 rfl rfl hn ?_
    refine V.icmp_geN (tgt := 47) dX4_endsWithin_14 (by decide) (by omega) (by omega) (fun c3 => ?_) (fun c3 => ?_)
    · refine V.fewer [2, 4] rfl ?_
      have hat : n ≤ at_ := by omega
      unfold mz_rnI at hk
      rw [if_pos hat] at hk
      exact hk q sv hi2 hi1 rfl
    · refine V.aload_n (j := 0) rfl dX4_endsWithin_17 ?_
      refine V.geti (v := nI j) dX4_endsWithin_18 fX4_28 rfl rfl rfl ?_
      refine V.iload_n (j := 1) rfl dX4_endsWithin_21 ?_
      refine V.icmp_geN (tgt := 47) dX4_endsWithin_22 (by decide) (by omega) (by omega) (fun c4 => ?_) (fun c4 => ?_)
      · exact absurd c4 (by omega)
      · refine V.aload_n (j := 0) rfl dX4_endsWithin_25 ?_
        refine V.dup rfl dX4_endsWithin_26 ?_
        refine V.geti (v := nI j) dX4_endsWithin_27 fX4_28 rfl rfl rfl ?_
        refine V.iconst (v := nI 1) (by decide) dX4_endsWithin_30 ?_
        refine V.iaddN dX4_endsWithin_31 ?_
        refine V.puti dX4_endsWithin_32 pX4_28 rfl rfl ?_
        refine V.aload_n (j := 0) rfl dX4_endsWithin_35 ?_
        refine V.aload_n (j := 2) rfl dX4_endsWithin_36 ?_
        refine V.iload (j := 4) rfl dX4_endsWithin_37 ?_
        refine V.cV (As := [.ref 25, .int (nI q)]) (st := []) dX4_endsWithin_39 sX4_40 iX4_lineBehind lX4_lineBehind rfl rfl (cd_line46_25 (upI (upI (upI I 46 5 (nI j)) 46 4 (nI t)) 46 5 (nI (j + 1))) (upA (upA (upA (upA A 47 (hd)) 49 (l)) 50 (sd)) 48 (sv)) n hn hN q (by omega) t rfl (by omega) (hiw q (by omega))) ⟨by decide, by decide⟩ (Nat.le_of_ble_eq_true rfl) rfl (fun r I' A' hq => ?_)
        obtain ⟨q2, s2, hq2, rfl, hpos, hsl, rfl, rfl⟩ := hq
        refine V.st (st' := [.int (nI q2)]) rfl ?_
        refine V.hpe (I' := (upI (upI I 46 5 (nI (j + 1))) 46 4 (nI ((cz_d1 (A 26) (A 27) (A 28) (A 29) q hd l sd (cz_sl sv) t).2.2.2.2.1)))) (A' := (upA (upA (upA (upA A 47 ((cz_d1 (A 26) (A 27) (A 28) (A 29) q hd l sd (cz_sl sv) t).1)) 49 ((cz_d1 (A 26) (A 27) (A 28) (A 29) q hd l sd (cz_sl sv) t).2.1)) 50 ((cz_d1 (A 26) (A 27) (A 28) (A 29) q hd l sd (cz_sl sv) t).2.2.1)) 48 (s2))) cz_up5 (cz_MM46 (A := A) (f := hd) (g := l) (h := sd) (k := sv) (f' := (cz_d1 (A 26) (A 27) (A 28) (A 29) q hd l sd (cz_sl sv) t).1) (g' := (cz_d1 (A 26) (A 27) (A 28) (A 29) q hd l sd (cz_sl sv) t).2.1) (h' := (cz_d1 (A 26) (A 27) (A 28) (A 29) q hd l sd (cz_sl sv) t).2.2.1) (k' := s2)) ?_
        refine V.istore (ls' := [(0, .ref 46), (1, .int (nI g)), (2, .ref 25), (3, .ref 35), (4, .int (nI q2))]) dX4_endsWithin_42 (by decide) rfl ?_
        refine V.goto (tgt := 8) dX4_endsWithin_44 (by decide) ?_
        have hqa : q = at_ := by omega
        subst hqa
        have eD : mz_di1 (cz_c (A 26) (A 27) (A 28) (A 29)) 0 q hd l sd (cz_sl sv) t = (cz_d1 (A 26) (A 27) (A 28) (A 29) q hd l sd (cz_sl sv) t) := rfl
        have hsl : cz_sl s2 = (cz_d1 (A 26) (A 27) (A 28) (A 29) q hd l sd (cz_sl sv) t).2.2.2.1 := hsl
        have hpos : q2 = (cz_d1 (A 26) (A 27) (A 28) (A 29) q hd l sd (cz_sl sv) t).2.2.2.2.2 ∨ (n ≤ q2 ∧ n ≤ (cz_d1 (A 26) (A 27) (A 28) (A 29) q hd l sd (cz_sl sv) t).2.2.2.2.2) := hpos
        unfold mz_rnI at hk
        rw [if_neg (by omega), eD, ← hsl] at hk
        have ht1 := cz_d1_t (hiw q (by omega)) (hd := hd) (l := l) (sd := sd) (sl := cz_sl sv) (t := t)
        exact ih _ _ _ _ _ _ _ _ (by omega) hq2 hpos (by omega) hk
set_option maxRecDepth 100000 in
set_option maxHeartbeats 4000000 in
theorem cd_ends46_25 {G : am_G} (I A : Nat → Nat → Int32) (n : Nat) (hn : I 25 4 = nI n) (hN : n ≤ 240) (hiw : ∀ i, i < n → cz_iw (A 26) (A 27) (A 28) (A 29) i) (g : Nat) (hg : g ≤ 2000) : Cm G MX4_endsWithin 4 91 [.ref 46, .int (nI g), .ref 25, .ref 35] I A (fun r I' A' => r = some (.int (bI (n ≤ (mz_rnI n (cz_c (A 26) (A 27) (A 28) (A 29)) 0 g 0 0 (mz_fill 32 0 (A 47)) (mz_cpf (A 35) 64 0 (A 49)) (A 50) (cz_sl (mz_fill 48 0 (A 48))) 0).1))) ∧ upI (upI I 46 5 (nI (mz_rnI n (cz_c (A 26) (A 27) (A 28) (A 29)) 0 g 0 0 (mz_fill 32 0 (A 47)) (mz_cpf (A 35) 64 0 (A 49)) (A 50) (cz_sl (mz_fill 48 0 (A 48))) 0).2.1)) 46 4 (nI (mz_rnI n (cz_c (A 26) (A 27) (A 28) (A 29)) 0 g 0 0 (mz_fill 32 0 (A 47)) (mz_cpf (A 35) 64 0 (A 49)) (A 50) (cz_sl (mz_fill 48 0 (A 48))) 0).2.2.2.2.2.2) = I' ∧ ∃ s', upA (upA (upA (upA A 47 (mz_rnI n (cz_c (A 26) (A 27) (A 28) (A 29)) 0 g 0 0 (mz_fill 32 0 (A 47)) (mz_cpf (A 35) 64 0 (A 49)) (A 50) (cz_sl (mz_fill 48 0 (A 48))) 0).2.2.1) 49 (mz_rnI n (cz_c (A 26) (A 27) (A 28) (A 29)) 0 g 0 0 (mz_fill 32 0 (A 47)) (mz_cpf (A 35) 64 0 (A 49)) (A 50) (cz_sl (mz_fill 48 0 (A 48))) 0).2.2.2.1) 50 (mz_rnI n (cz_c (A 26) (A 27) (A 28) (A 29)) 0 g 0 0 (mz_fill 32 0 (A 47)) (mz_cpf (A 35) 64 0 (A 49)) (A 50) (cz_sl (mz_fill 48 0 (A 48))) 0).2.2.2.2.1) 48 s' = A') := by
  refine Cm.of (by decide) (Nat.le_of_ble_eq_true rfl) rfl ?_
  show V G MX4_endsWithin (am_R 4 91 0 0) _ 0 0 0 [(0, .ref 46), (1, .int (nI g)), (2, .ref 25), (3, .ref 35)] [] (hp I A)
  refine V.aload_n (j := 0) rfl dX4_endsWithin_0 ?_
  refine V.aload_n (j := 3) rfl dX4_endsWithin_1 ?_
  refine V.cV (As := [.ref 35]) (st := []) dX4_endsWithin_2 sX4_31 iX4_begin lX4_begin rfl rfl (cd_begin46 I A) ⟨by decide, by decide⟩ (Nat.le_of_ble_eq_true rfl) rfl (fun r I' A' hq => ?_)
  obtain ⟨rfl, rfl, rfl⟩ := hq
  refine V.st (st' := []) rfl ?_
  refine V.iconst (v := nI 0) (by decide) dX4_endsWithin_5 ?_
  refine V.istore (ls' := [(0, .ref 46), (1, .int (nI g)), (2, .ref 25), (3, .ref 35), (4, .int (nI 0))]) dX4_endsWithin_6 (by decide) rfl ?_
  refine V.hpe (I' := (upI (upI I 46 5 (nI 0)) 46 4 (nI 0))) (A' := (upA (upA (upA (upA A 47 (mz_fill 32 0 (A 47))) 49 (mz_cpf (A 35) 64 0 (A 49))) 50 (A 50)) 48 (mz_fill 48 0 (A 48)))) cz_up54 cz_MB46 ?_
  refine cl_ends46_25 I A n hn hN hiw g hg g 0 0 0 _ _ _ _ 0 (by omega) (by omega) (Or.inl rfl) (by omega) (fun q s h1 h2 h3 => ?_)
  refine V.iload (j := 1) rfl dX4_endsWithin_47 ?_
  refine V.aload_n (j := 0) rfl dX4_endsWithin_49 ?_
  refine V.geti (v := nI n) dX4_endsWithin_50 fX4_35 rfl rfl hn ?_
  refine V.icmp_ltN (tgt := 60) dX4_endsWithin_53 (by decide) (by omega) (by omega) (fun c => ?_) (fun c => ?_)
  · refine V.iconst (v := nI 0) (by decide) dX4_endsWithin_60 ?_
    refine V.rz dX4_endsWithin_61 rfl (by decide) ?_
    exact ⟨am_s0 (by omega), rfl, s, rfl⟩
  · refine V.iconst (v := nI 1) (by decide) dX4_endsWithin_56 ?_
    refine V.goto (tgt := 61) dX4_endsWithin_57 (by decide) ?_
    refine V.rz dX4_endsWithin_61 rfl (by decide) ?_
    exact ⟨am_s1 (by omega), rfl, s, rfl⟩
set_option maxRecDepth 100000 in
set_option maxHeartbeats 4000000 in
theorem cl_agr1 {G : am_G} {Fn : Array Value → State → List Frame → State → Prop} (I A : Nat → Nat → Int32) (t : Nat) (ht : I 46 4 = nI t) (ht2 : t < 4000) (ht3 : I 41 4 = nI t) (hsp : ∀ k, k < min t 50 → A 50 k = A 45 k) (hce : ∀ k, k < 64 → A 49 k = A 44 k) : ∀ (m : Nat) (k : Nat), k + m = min t 50 → V G MX4_agreesWith (am_R 2 41 0 0) Fn 0 0 46 [(0, .ref 46), (1, .ref 41)] [] (hp I A) → V G MX4_agreesWith (am_R 2 41 0 0) Fn 0 0 15 [(0, .ref 46), (1, .ref 41), (2, .int (nI k))] [] (hp I A) := by
  intro m
  induction m with
  | zero =>
    intro k hi0 hk
    refine V.iload_n (j := 2) rfl dX4_agreesWith_15 ?_
    refine V.aload_n (j := 0) rfl dX4_agreesWith_16 ?_
    refine V.cV (As := []) (st := [.int (nI k)]) dX4_agreesWith_17 sX4_79 iX4_wordsKept lX4_wordsKept rfl rfl (cd_kept46 I A t ht ht2) ⟨by decide, by decide⟩ (Nat.le_of_ble_eq_true rfl) rfl (fun r I' A' hq => ?_)
    obtain ⟨rfl, rfl, rfl⟩ := hq
    refine V.st (st' := [.int (nI (min t 50)), .int (nI k)]) rfl ?_
    refine V.icmp_geN (tgt := 46) dX4_agreesWith_20 (by decide) (by omega) (by omega) (fun c1 => ?_) (fun c1 => ?_)
    · refine V.fewer [0, 1] rfl ?_
      exact hk
    · exact absurd c1 (by omega)
  | succ m ih =>
    intro k hi0 hk
    refine V.iload_n (j := 2) rfl dX4_agreesWith_15 ?_
    refine V.aload_n (j := 0) rfl dX4_agreesWith_16 ?_
    refine V.cV (As := []) (st := [.int (nI k)]) dX4_agreesWith_17 sX4_79 iX4_wordsKept lX4_wordsKept rfl rfl (cd_kept46 I A t ht ht2) ⟨by decide, by decide⟩ (Nat.le_of_ble_eq_true rfl) rfl (fun r I' A' hq => ?_)
    obtain ⟨rfl, rfl, rfl⟩ := hq
    refine V.st (st' := [.int (nI (min t 50)), .int (nI k)]) rfl ?_
    refine V.icmp_geN (tgt := 46) dX4_agreesWith_20 (by decide) (by omega) (by omega) (fun c2 => ?_) (fun c2 => ?_)
    · exact absurd c2 (by omega)
    · refine V.aload_n (j := 0) rfl dX4_agreesWith_23 ?_
      refine V.getr (q := 50) dX4_agreesWith_24 fX4_21 rfl rfl ?_
      refine V.iload_n (j := 2) rfl dX4_agreesWith_27 ?_
      refine V.lda (v := A 50 k) dX4_agreesWith_28 rfl (by omega) (by decide) rfl ?_
      refine V.aload_n (j := 1) rfl dX4_agreesWith_29 ?_
      refine V.getr (q := 45) dX4_agreesWith_30 fX4_21 rfl rfl ?_
      refine V.iload_n (j := 2) rfl dX4_agreesWith_33 ?_
      refine V.lda (v := A 45 k) dX4_agreesWith_34 rfl (by omega) (by decide) rfl ?_
      refine V.icmp_eq (tgt := 40) dX4_agreesWith_35 (by decide) (fun c3 => ?_) (fun c3 => ?_)
      · refine V.iincN (ls' := [(0, .ref 46), (1, .ref 41), (2, .int (nI (k + 1)))]) dX4_agreesWith_40 (j := 2) rfl (by decide) rfl ?_
        refine V.goto (tgt := 15) dX4_agreesWith_43 (by decide) ?_
        exact ih (k + 1) (by omega) hk
      · exact absurd (hsp k (by omega)) c3
set_option maxRecDepth 100000 in
set_option maxHeartbeats 4000000 in
theorem cl_agr2 {G : am_G} {Fn : Array Value → State → List Frame → State → Prop} (I A : Nat → Nat → Int32) (t : Nat) (ht : I 46 4 = nI t) (ht2 : t < 4000) (ht3 : I 41 4 = nI t) (hsp : ∀ k, k < min t 50 → A 50 k = A 45 k) (hce : ∀ k, k < 64 → A 49 k = A 44 k) : ∀ (m : Nat) (k : Nat), k + m = 64 → V G MX4_agreesWith (am_R 2 41 0 0) Fn 0 0 77 [(0, .ref 46), (1, .ref 41)] [] (hp I A) → V G MX4_agreesWith (am_R 2 41 0 0) Fn 0 0 48 [(0, .ref 46), (1, .ref 41), (2, .int (nI k))] [] (hp I A) := by
  intro m
  induction m with
  | zero =>
    intro k hi0 hk
    refine V.iload_n (j := 2) rfl dX4_agreesWith_48 ?_
    refine V.bipush (v := nI 64) (by decide) dX4_agreesWith_49 ?_
    refine V.icmp_geN (tgt := 77) dX4_agreesWith_51 (by decide) (by omega) (by omega) (fun c1 => ?_) (fun c1 => ?_)
    · refine V.fewer [0, 1] rfl ?_
      exact hk
    · exact absurd c1 (by omega)
  | succ m ih =>
    intro k hi0 hk
    refine V.iload_n (j := 2) rfl dX4_agreesWith_48 ?_
    refine V.bipush (v := nI 64) (by decide) dX4_agreesWith_49 ?_
    refine V.icmp_geN (tgt := 77) dX4_agreesWith_51 (by decide) (by omega) (by omega) (fun c2 => ?_) (fun c2 => ?_)
    · exact absurd c2 (by omega)
    · refine V.aload_n (j := 0) rfl dX4_agreesWith_54 ?_
      refine V.getr (q := 49) dX4_agreesWith_55 fX4_18 rfl rfl ?_
      refine V.iload_n (j := 2) rfl dX4_agreesWith_58 ?_
      refine V.lda (v := A 49 k) dX4_agreesWith_59 rfl (by omega) (by decide) rfl ?_
      refine V.aload_n (j := 1) rfl dX4_agreesWith_60 ?_
      refine V.getr (q := 44) dX4_agreesWith_61 fX4_18 rfl rfl ?_
      refine V.iload_n (j := 2) rfl dX4_agreesWith_64 ?_
      refine V.lda (v := A 44 k) dX4_agreesWith_65 rfl (by omega) (by decide) rfl ?_
      refine V.icmp_eq (tgt := 71) dX4_agreesWith_66 (by decide) (fun c3 => ?_) (fun c3 => ?_)
      · refine V.iincN (ls' := [(0, .ref 46), (1, .ref 41), (2, .int (nI (k + 1)))]) dX4_agreesWith_71 (j := 2) rfl (by decide) rfl ?_
        refine V.goto (tgt := 48) dX4_agreesWith_74 (by decide) ?_
        exact ih (k + 1) (by omega) hk
      · exact absurd (hce k (by omega)) c3
set_option maxRecDepth 100000 in
set_option maxHeartbeats 4000000 in
theorem cd_agrees {G : am_G} (I A : Nat → Nat → Int32) (t : Nat) (ht : I 46 4 = nI t) (ht2 : t < 4000) (ht3 : I 41 4 = nI t) (hsp : ∀ k, k < min t 50 → A 50 k = A 45 k) (hce : ∀ k, k < 64 → A 49 k = A 44 k) : Cm G MX4_agreesWith 2 41 [.ref 46, .ref 41] I A (fun r I' A' => r = some (.int (nI 1)) ∧ I = I' ∧ A = A') := by
  refine Cm.of (by decide) (Nat.le_of_ble_eq_true rfl) rfl ?_
  show V G MX4_agreesWith (am_R 2 41 0 0) _ 0 0 0 [(0, .ref 46), (1, .ref 41)] [] (hp I A)
  refine V.aload_n (j := 0) rfl dX4_agreesWith_0 ?_
  refine V.geti (v := nI t) dX4_agreesWith_1 fX4_24 rfl rfl ht ?_
  refine V.aload_n (j := 1) rfl dX4_agreesWith_4 ?_
  refine V.geti (v := nI t) dX4_agreesWith_5 fX4_24 rfl rfl ht3 ?_
  refine V.icmp_eq (tgt := 13) dX4_agreesWith_8 (by decide) (fun _ => ?_) (fun z => absurd rfl z)
  refine V.iconst (v := nI 0) (by decide) dX4_agreesWith_13 ?_
  refine V.istore_n (ls' := [(0, .ref 46), (1, .ref 41), (2, .int (nI 0))]) dX4_agreesWith_14 (by decide) rfl ?_
  refine cl_agr1 I A t ht ht2 ht3 hsp hce (min t 50) 0 (by omega) ?_
  refine V.iconst (v := nI 0) (by decide) dX4_agreesWith_46 ?_
  refine V.istore_n (ls' := [(0, .ref 46), (1, .ref 41), (2, .int (nI 0))]) dX4_agreesWith_47 (by decide) rfl ?_
  refine cl_agr2 I A t ht ht2 ht3 hsp hce 64 0 (by omega) ?_
  refine V.iconst (v := nI 1) (by decide) dX4_agreesWith_77 ?_
  refine V.rz dX4_agreesWith_78 rfl (by decide) ?_
  exact ⟨rfl, rfl, rfl⟩
