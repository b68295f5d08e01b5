theorem cz_CC_22 {A : Nat → Nat → Int32} {c c' f : Nat → Int32} : cz_CC (upA (cz_CC A c) 22 f) c' = upA (cz_CC A c') 22 f := by
  funext b
  by_cases h1 : b = 22
  · subst h1; rfl
  · by_cases h2 : b = 26
    · subst h2; rfl
    · by_cases h3 : b = 27
      · subst h3; rfl
      · by_cases h4 : b = 28
        · subst h4; rfl
        · by_cases h5 : b = 29
          · subst h5; rfl
          · simp [cz_CC, upA, h1, h2, h3, h4, h5]
theorem cz_v_22 {A : Nat → Nat → Int32} {f : Nat → Int32} : cz_v (upA A 22 f) = cz_v A := rfl
set_option maxRecDepth 100000 in
set_option maxHeartbeats 4000000 in
theorem cl_tr1 {G : am_G} {Fn : Array Value → State → List Frame → State → Prop} (I A : Nat → Nat → Int32) (nv ns : Nat) (hs : I 4 4 = nI ns) (hns : ns ≤ 60) (hnv : nv ≤ 24) (hsw : ∀ s, s < ns → mz_sw nv (A 5 s) (A 6 s) (A 7 s) (A 8 s)) (h9 : ∀ s, s < ns → A 9 s = mz_anew (A 5) (A 6) s) (h10 : ∀ s, s < ns → A 10 s = mz_tak0 (A 5) (A 6) (A 7) s) (h11 : ∀ s, s < ns → A 11 s = mz_tak1 (A 5) (A 7) (A 8) s) : ∀ (m : Nat) (s : Nat) (c : Nat → Int32) (n : Nat) (f : Nat → Int32), s + m = ns → n ≤ 4 * s → (∀ c' n' f', mz_cds (A 5) (A 6) (A 7) (A 8) (A 2) (A 20) m s (fun _ => (0 : Int32)) (fun _ => (0 : Int32)) c n f c' n' f' → n' ≤ 4 * ns → V G MX0_translate (am_R 4 99 0 0) Fn 0 0 55 [(0, .ref 21), (1, .ref 1), (2, .ref 15), (3, .ref 25)] [] (hp (upI I 25 4 (nI n')) (upA (cz_CC A c') 22 f'))) → V G MX0_translate (am_R 4 99 0 0) Fn 0 0 8 [(0, .ref 21), (1, .ref 1), (2, .ref 15), (3, .ref 25), (4, .int (nI s))] [] (hp (upI I 25 4 (nI n)) (upA (cz_CC A c) 22 (f))) := by
  intro m
  induction m with
  | zero =>
    intro s c n f hi0 hi1 hk
    refine V.iload (j := 4) rfl dX0_translate_8 ?_
    refine V.aload_n (j := 1) rfl dX0_translate_10 ?_
    refine V.getr (q := 4) dX0_translate_11 fX0_21 rfl rfl ?_
    refine V.geti (v := nI ns) dX0_translate_14 fX0_15 rfl rfl hs ?_
    refine V.icmp_geN (tgt := 55) dX0_translate_17 (by decide) (by omega) (by omega) (fun c1 => ?_) (fun c1 => ?_)
    · refine V.fewer [0, 1, 2, 3] rfl ?_
      exact hk c n f ⟨rfl, rfl, rfl⟩ (by omega)
    · exact absurd c1 (by omega)
  | succ m ih =>
    intro s c n f hi0 hi1 hk
    refine V.iload (j := 4) rfl dX0_translate_8 ?_
    refine V.aload_n (j := 1) rfl dX0_translate_10 ?_
    refine V.getr (q := 4) dX0_translate_11 fX0_21 rfl rfl ?_
    refine V.geti (v := nI ns) dX0_translate_14 fX0_15 rfl rfl hs ?_
    refine V.icmp_geN (tgt := 55) dX0_translate_17 (by decide) (by omega) (by omega) (fun c2 => ?_) (fun c2 => ?_)
    · exact absurd c2 (by omega)
    · refine V.aload_n (j := 0) rfl dX0_translate_20 ?_
      refine V.getr (q := 22) dX0_translate_21 fX0_9 rfl rfl ?_
      refine V.iload (j := 4) rfl dX0_translate_24 ?_
      refine V.aload_n (j := 3) rfl dX0_translate_26 ?_
      refine V.geti (v := nI n) dX0_translate_27 fX0_15 rfl rfl rfl ?_
      refine V.sta (g := upd f s (nI n)) dX0_translate_30 rfl (by omega) (by decide) rfl ?_
      refine V.hpe (A' := (upA (cz_CC A c) 22 (upd f s (nI n)))) rfl upA_u ?_
      refine V.aload_n (j := 1) rfl dX0_translate_31 ?_
      refine V.aload_n (j := 2) rfl dX0_translate_32 ?_
      refine V.iload (j := 4) rfl dX0_translate_33 ?_
      refine V.cS (As := [.ref 1, .ref 15, .int (nI s)]) (st := []) dX0_translate_35 sX0_27 zX0_isNeedless (cd_ndl (upI I 25 4 (nI n)) (upA (cz_CC A c) 22 (upd f s (nI n))) nv hnv s (by omega) (hsw s (by omega))) ⟨by decide, by decide⟩ (Nat.le_of_ble_eq_true rfl) rfl (fun r I' A' hq => ?_)
      obtain ⟨rfl, rfl, rfl⟩ := hq
      by_cases b3 : mz_ndl ((upA (cz_CC A c) 22 (upd f s (nI n))) 5) ((upA (cz_CC A c) 22 (upd f s (nI n))) 6) ((upA (cz_CC A c) 22 (upd f s (nI n))) 7) ((upA (cz_CC A c) 22 (upd f s (nI n))) 2) ((upA (cz_CC A c) 22 (upd f s (nI n))) 20) s
      · refine V.st (st' := [.int (nI 1)]) (by rw [bI_t b3]; rfl) ?_
        refine V.if_ne (tgt := 49) dX0_translate_38 (by decide) (fun _ => ?_) (fun z => absurd z (by decide))
        refine V.iincN (ls' := [(0, .ref 21), (1, .ref 1), (2, .ref 15), (3, .ref 25), (4, .int (nI (s + 1)))]) dX0_translate_49 (j := 4) rfl (by decide) rfl ?_
        refine V.goto (tgt := 8) dX0_translate_52 (by decide) ?_
        have hmk : mz_mk (A 5) (A 6) (A 7) (A 8) (A 2) (A 20) s (fun _ => (0 : Int32)) (fun _ => (0 : Int32)) c n = _ := mz_mk_t (show mz_ndl (A 5) (A 6) (A 7) (A 2) (A 20) s from b3)
        have hle := mz_mk_le (op := A 5) (fa := A 6) (fb := A 7) (fc := A 8) (cl := A 2) (hm := A 20) (fe := (fun _ => (0 : Int32))) (it := (fun _ => (0 : Int32))) (c := c) (s := s) (n := n)
        refine V.hpe (I' := (upI I 25 4 (nI (mz_mk (A 5) (A 6) (A 7) (A 8) (A 2) (A 20) s (fun _ => (0 : Int32)) (fun _ => (0 : Int32)) c n).2))) (A' := (upA (cz_CC A (mz_mk (A 5) (A 6) (A 7) (A 8) (A 2) (A 20) s (fun _ => (0 : Int32)) (fun _ => (0 : Int32)) c n).1) 22 (upd f s (nI n)))) (by rw [hmk]) (by rw [hmk]) ?_
        exact ih (s + 1) _ _ _ (by omega) (by omega) (fun c2 n2 f2 q => hk c2 n2 f2 ⟨_, _, q⟩)
      · refine V.st (st' := [.int (nI 0)]) (by rw [bI_f b3]; rfl) ?_
        refine V.if_ne (tgt := 49) dX0_translate_38 (by decide) (fun z => absurd z (by decide)) (fun _ => ?_)
        refine V.aload_n (j := 1) rfl dX0_translate_41 ?_
        refine V.aload_n (j := 2) rfl dX0_translate_42 ?_
        refine V.aload_n (j := 3) rfl dX0_translate_43 ?_
        refine V.iload (j := 4) rfl dX0_translate_44 ?_
        refine V.cS (As := [.ref 1, .ref 15, .ref 25, .int (nI s)]) (st := []) dX0_translate_46 sX0_31 zX0_translateStep (cd_ts (upI I 25 4 (nI n)) (upA (cz_CC A c) 22 (upd f s (nI n))) nv hnv n rfl (by omega) s (by omega) (hsw s (by omega)) (h9 s (by omega)) (h10 s (by omega)) (h11 s (by omega)) (fun _ => (0 : Int32)) (fun _ => (0 : Int32))) ⟨by decide, by decide⟩ (Nat.le_of_ble_eq_true rfl) rfl (fun r I' A' hq => ?_)
        obtain ⟨rfl, rfl, rfl⟩ := hq
        refine V.hpe (I' := (upI I 25 4 (nI (mz_mkN (A 5) (A 6) (A 7) (A 8) (A 2) (A 20) s (mz_f2 (A 5) (A 6) (A 7) (A 8) (A 2) (A 20) s (0, (fun _ => (0 : Int32)), (fun _ => (0 : Int32)), c, n))).2))) (A' := (upA (cz_CC A (mz_mkN (A 5) (A 6) (A 7) (A 8) (A 2) (A 20) s (mz_f2 (A 5) (A 6) (A 7) (A 8) (A 2) (A 20) s (0, (fun _ => (0 : Int32)), (fun _ => (0 : Int32)), c, n))).1) 22 (upd f s (nI n)))) (by rw [upI_u, cz_v_22, cz_vCC]; rfl) (by rw [cz_CC_22, cz_v_22, cz_vCC]; rfl) ?_
        refine V.st (st' := []) rfl ?_
        refine V.iincN (ls' := [(0, .ref 21), (1, .ref 1), (2, .ref 15), (3, .ref 25), (4, .int (nI (s + 1)))]) dX0_translate_49 (j := 4) rfl (by decide) rfl ?_
        refine V.goto (tgt := 8) dX0_translate_52 (by decide) ?_
        have hmk : mz_mk (A 5) (A 6) (A 7) (A 8) (A 2) (A 20) s (fun _ => (0 : Int32)) (fun _ => (0 : Int32)) c n = _ := mz_mk_f (show ¬ mz_ndl (A 5) (A 6) (A 7) (A 2) (A 20) s from b3)
        have hle := mz_mk_le (op := A 5) (fa := A 6) (fb := A 7) (fc := A 8) (cl := A 2) (hm := A 20) (fe := (fun _ => (0 : Int32))) (it := (fun _ => (0 : Int32))) (c := c) (s := s) (n := n)
        refine V.hpe (I' := (upI I 25 4 (nI (mz_mk (A 5) (A 6) (A 7) (A 8) (A 2) (A 20) s (fun _ => (0 : Int32)) (fun _ => (0 : Int32)) c n).2))) (A' := (upA (cz_CC A (mz_mk (A 5) (A 6) (A 7) (A 8) (A 2) (A 20) s (fun _ => (0 : Int32)) (fun _ => (0 : Int32)) c n).1) 22 (upd f s (nI n)))) (by rw [hmk]) (by rw [hmk]) ?_
        exact ih (s + 1) _ _ _ (by omega) (by omega) (fun c2 n2 f2 q => hk c2 n2 f2 ⟨_, _, q⟩)
def cz_fl (x : Int32) : Nat → Nat → (Nat → Int32) → Nat → Int32
  | 0, _, f => f
  | m + 1, i, f => cz_fl x m (i + 1) (upd f i x)
theorem cz_fl_at {x : Int32} : ∀ (m i : Nat) (f : Nat → Int32) (s : Nat), cz_fl x m i f s = if i ≤ s ∧ s < i + m then x else f s
  | 0, i, f, s => by rw [if_neg (by omega)]; rfl
  | m + 1, i, f, s => by
    show cz_fl x m (i + 1) (upd f i x) s = _
    rw [cz_fl_at m (i + 1)]
    by_cases h : s = i
    · subst h
      rw [if_neg (by omega), if_pos (by omega), pk_us]
    · by_cases h2 : i + 1 ≤ s ∧ s < i + 1 + m
      · rw [if_pos h2, if_pos (by omega)]
      · rw [if_neg h2, if_neg (by omega), pk_un h]
set_option maxRecDepth 100000 in
set_option maxHeartbeats 4000000 in
theorem cl_tr2 {G : am_G} {Fn : Array Value → State → List Frame → State → Prop} (I A : Nat → Nat → Int32) (n : Nat) (hn : I 25 4 = nI n) : ∀ (m : Nat) (i : Nat) (f : Nat → Int32), i + m = 61 → V G MX0_translate (am_R 4 99 0 0) Fn 0 0 88 [(0, .ref 21), (1, .ref 1), (2, .ref 15), (3, .ref 25)] [] (hp I (upA A 22 (cz_fl (nI n) m i f))) → V G MX0_translate (am_R 4 99 0 0) Fn 0 0 64 [(0, .ref 21), (1, .ref 1), (2, .ref 15), (3, .ref 25), (4, .int (nI i))] [] (hp I (upA A 22 (f))) := by
  intro m
  induction m with
  | zero =>
    intro i f hi0 hk
    refine V.iload (j := 4) rfl dX0_translate_64 ?_
    refine V.bipush (v := nI 60) (by decide) dX0_translate_66 ?_
    refine V.icmp_gtN (tgt := 88) dX0_translate_68 (by decide) (by omega) (by omega) (fun c1 => ?_) (fun c1 => ?_)
    · refine V.fewer [0, 1, 2, 3] rfl ?_
      exact hk
    · exact absurd c1 (by omega)
  | succ m ih =>
    intro i f hi0 hk
    refine V.iload (j := 4) rfl dX0_translate_64 ?_
    refine V.bipush (v := nI 60) (by decide) dX0_translate_66 ?_
    refine V.icmp_gtN (tgt := 88) dX0_translate_68 (by decide) (by omega) (by omega) (fun c2 => ?_) (fun c2 => ?_)
    · exact absurd c2 (by omega)
    · refine V.aload_n (j := 0) rfl dX0_translate_71 ?_
      refine V.getr (q := 22) dX0_translate_72 fX0_9 rfl rfl ?_
      refine V.iload (j := 4) rfl dX0_translate_75 ?_
      refine V.aload_n (j := 3) rfl dX0_translate_77 ?_
      refine V.geti (v := nI n) dX0_translate_78 fX0_15 rfl rfl hn ?_
      refine V.sta (g := upd f i (nI n)) dX0_translate_81 rfl (by omega) (by decide) rfl ?_
      refine V.hpe (A' := (upA A 22 (upd f i (nI n)))) rfl upA_u ?_
      refine V.iincN (ls' := [(0, .ref 21), (1, .ref 1), (2, .ref 15), (3, .ref 25), (4, .int (nI (i + 1)))]) dX0_translate_82 (j := 4) rfl (by decide) rfl ?_
      refine V.goto (tgt := 64) dX0_translate_85 (by decide) ?_
      exact ih (i + 1) _ (by omega) hk
theorem cz_aim_z {A : Nat → Nat → Int32} {c : Nat → Int32} {i : Nat} {t : Int32} : upA (cz_CC A c) 29 (upd (fun i => c (4 * i + 3)) i t) = cz_CC A (upd c (4 * i + 3) t) := by
  unfold cz_CC
  rw [upA_u, show (fun j => upd c (4 * i + 3) t (4 * j)) = fun j => c (4 * j) from funext fun j => pk_un (by omega), show (fun j => upd c (4 * i + 3) t (4 * j + 1)) = fun j => c (4 * j + 1) from funext fun j => pk_un (by omega), show (fun j => upd c (4 * i + 3) t (4 * j + 2)) = fun j => c (4 * j + 2) from funext fun j => pk_un (by omega)]
  congr 1
  funext j
  by_cases h : j = i
  · subst h; rw [pk_us, pk_us]
  · rw [pk_un h, pk_un (by omega)]
theorem cz_aim_x {A : Nat → Nat → Int32} {c : Nat → Int32} {i : Nat} {t : Int32} : upA (cz_CC A c) 27 (upd (fun i => c (4 * i + 1)) i t) = cz_CC A (upd c (4 * i + 1) t) := by
  unfold cz_CC
  rw [upA_r3 (a := 27) (b := 28) (c := 29) (by decide) (by decide), show (fun j => upd c (4 * i + 1) t (4 * j)) = fun j => c (4 * j) from funext fun j => pk_un (by omega), show (fun j => upd c (4 * i + 1) t (4 * j + 3)) = fun j => c (4 * j + 3) from funext fun j => pk_un (by omega), show (fun j => upd c (4 * i + 1) t (4 * j + 2)) = fun j => c (4 * j + 2) from funext fun j => pk_un (by omega)]
  congr 3
  funext j
  by_cases h : j = i
  · subst h; rw [pk_us, pk_us]
  · rw [pk_un h, pk_un (by omega)]
/-- aim, where there is a target -/
theorem cz_aim_e {A : Nat → Nat → Int32} {c : Nat → Int32} {i : Nat} {t : Int32} (h : c (4 * i) = nI 7 ∨ c (4 * i) = nI 8) : (if (cz_CC A c) 26 i = nI 7 then upA (cz_CC A c) 29 (upd ((cz_CC A c) 29) i t) else if (cz_CC A c) 26 i = nI 8 then upA (cz_CC A c) 27 (upd ((cz_CC A c) 27) i t) else cz_CC A c) = cz_CC A (upd c (4 * i + mz_of0 c i) t) := by
  show (if c (4 * i) = nI 7 then upA (cz_CC A c) 29 (upd (fun i => c (4 * i + 3)) i t) else if c (4 * i) = nI 8 then upA (cz_CC A c) 27 (upd (fun i => c (4 * i + 1)) i t) else cz_CC A c) = _
  unfold mz_of0
  by_cases h7 : c (4 * i) = nI 7
  · rw [if_pos h7, if_pos h7, cz_aim_z]
  · rw [if_neg h7, if_neg h7, if_pos (h.resolve_left h7), cz_aim_x]
theorem cz_tgt_e {c : Nat → Int32} {i : Nat} : cz_tgt (fun i => c (4 * i)) (fun i => c (4 * i + 1)) (fun i => c (4 * i + 3)) i = if c (4 * i) = nI 7 ∨ c (4 * i) = nI 8 then c (4 * i + mz_of0 c i) else (-1) := by
  unfold cz_tgt mz_of0
  by_cases h7 : c (4 * i) = nI 7
  · rw [if_pos h7, if_pos (Or.inl h7), if_pos h7]
  · rw [if_neg h7]
    by_cases h8 : c (4 * i) = nI 8
    · rw [if_pos h8, if_pos (Or.inr h8), if_neg h7]
    · rw [if_neg h8, if_neg (fun z => z.elim h7 h8)]
set_option maxRecDepth 100000 in
set_option maxHeartbeats 4000000 in
theorem cl_tr3 {G : am_G} {Fn : Array Value → State → List Frame → State → Prop} (I A : Nat → Nat → Int32) (n : Nat) (hn : I 25 4 = nI n) (hN : n ≤ 240) (ns : Nat) (f : Nat → Int32) (hf : ∀ x, x ≤ 60 → A 22 x = if nI ns ≤ nI x then nI n else f (nI x).toNatClampNeg) : ∀ (m : Nat) (i : Nat) (c : Nat → Int32), i + m = n → (∀ j, i ≤ j → j < n → mz_tok c j) → V G MX0_translate (am_R 4 99 0 0) Fn 0 0 133 [(0, .ref 21)] [] (hp I (cz_CC A (mz_rts ns n f m i c))) → V G MX0_translate (am_R 4 99 0 0) Fn 0 0 91 [(0, .ref 21), (1, .ref 1), (2, .ref 15), (3, .ref 25), (4, .int (nI i))] [] (hp I (cz_CC A c)) := by
  intro m
  induction m with
  | zero =>
    intro i c hi0 hi1 hk
    refine V.iload (j := 4) rfl dX0_translate_91 ?_
    refine V.aload_n (j := 3) rfl dX0_translate_93 ?_
    refine V.geti (v := nI n) dX0_translate_94 fX0_15 rfl rfl hn ?_
    refine V.icmp_geN (tgt := 133) dX0_translate_97 (by decide) (by omega) (by omega) (fun c1 => ?_) (fun c1 => ?_)
    · refine V.fewer [0] rfl ?_
      exact hk
    · exact absurd c1 (by omega)
  | succ m ih =>
    intro i c hi0 hi1 hk
    refine V.iload (j := 4) rfl dX0_translate_91 ?_
    refine V.aload_n (j := 3) rfl dX0_translate_93 ?_
    refine V.geti (v := nI n) dX0_translate_94 fX0_15 rfl rfl hn ?_
    refine V.icmp_geN (tgt := 133) dX0_translate_97 (by decide) (by omega) (by omega) (fun c2 => ?_) (fun c2 => ?_)
    · exact absurd c2 (by omega)
    · refine V.aload_n (j := 3) rfl dX0_translate_100 ?_
      refine V.iload (j := 4) rfl dX0_translate_101 ?_
      refine V.cV (As := [.int (nI i)]) (st := []) dX0_translate_103 sX0_35 iX3_target lX3_target rfl rfl (cd_target25 I (cz_CC A c) i (by omega)) ⟨by decide, by decide⟩ (Nat.le_of_ble_eq_true rfl) rfl (fun r I' A' hq => ?_)
      obtain ⟨rfl, rfl, rfl⟩ := hq
      refine V.st (st' := [.int (cz_tgt (fun i => c (4 * i)) (fun i => c (4 * i + 1)) (fun i => c (4 * i + 3)) i)]) rfl ?_
      refine V.iconst (v := (-1)) (by decide) dX0_translate_106 ?_
      refine V.icmp_eq (tgt := 127) dX0_translate_107 (by decide) (fun c3 => ?_) (fun c3 => ?_)
      · refine V.iincN (ls' := [(0, .ref 21), (1, .ref 1), (2, .ref 15), (3, .ref 25), (4, .int (nI (i + 1)))]) dX0_translate_127 (j := 4) rfl (by decide) rfl ?_
        refine V.goto (tgt := 91) dX0_translate_130 (by decide) ?_
        have hj : ¬ (c (4 * i) = nI 7 ∨ c (4 * i) = nI 8) := fun z => by
          obtain ⟨x, hx, ex⟩ := hi1 i (Nat.le_refl _) (by omega) z
          have h2 := c3
          rw [cz_tgt_e, if_pos z, ex] at h2
          exact nI_nm1 (by omega) h2
        refine V.hpe (A' := (cz_CC A (mz_rt ns n f c i))) rfl (congrArg (cz_CC A) (show c = mz_rt ns n f c i by unfold mz_rt; rw [if_neg hj])) ?_
        exact ih (i + 1) _ (by omega) (fun j h1 h2 => mz_tok_rt (hi1 j (by omega) h2) (by omega)) hk
      · have hj : c (4 * i) = nI 7 ∨ c (4 * i) = nI 8 := Classical.byContradiction fun z => c3 (by rw [cz_tgt_e, if_neg z])
        obtain ⟨x, hx, ex⟩ := hi1 i (Nat.le_refl _) (by omega) hj
        have et : cz_tgt (fun i => c (4 * i)) (fun i => c (4 * i + 1)) (fun i => c (4 * i + 3)) i = nI x := by rw [cz_tgt_e, if_pos hj, ex]
        refine V.aload_n (j := 3) rfl dX0_translate_110 ?_
        refine V.iload (j := 4) rfl dX0_translate_111 ?_
        refine V.aload_n (j := 0) rfl dX0_translate_113 ?_
        refine V.getr (q := 22) dX0_translate_114 fX0_9 rfl rfl ?_
        refine V.aload_n (j := 3) rfl dX0_translate_117 ?_
        refine V.iload (j := 4) rfl dX0_translate_118 ?_
        refine V.cV (As := [.int (nI i)]) (st := [.ref 22, .int (nI i), .ref 25]) dX0_translate_120 sX0_35 iX3_target lX3_target rfl rfl (cd_target25 I (cz_CC A c) i (by omega)) ⟨by decide, by decide⟩ (Nat.le_of_ble_eq_true rfl) rfl (fun r I' A' hq => ?_)
        obtain ⟨rfl, rfl, rfl⟩ := hq
        refine V.st (st' := [.int (cz_tgt (fun i => c (4 * i)) (fun i => c (4 * i + 1)) (fun i => c (4 * i + 3)) i), .ref 22, .int (nI i), .ref 25]) rfl ?_
        refine V.st (st' := [.int (nI x), .ref 22, .int (nI i), .ref 25]) (by rw [et]) ?_
        refine V.lda (v := A 22 x) dX0_translate_123 rfl (by omega) (by decide) rfl ?_
        refine V.cV (As := [.int (nI i), .int (A 22 x)]) (st := []) dX0_translate_124 sX0_39 iX3_aim lX3_aim rfl rfl (cd_aim25 I (cz_CC A c) i (by omega) _) ⟨by decide, by decide⟩ (Nat.le_of_ble_eq_true rfl) rfl (fun r I' A' hq => ?_)
        obtain ⟨rfl, rfl, rfl⟩ := hq
        refine V.hpe (A' := (cz_CC A (mz_rt ns n f c i))) rfl ((cz_aim_e hj).trans (congrArg (cz_CC A) (show _ = mz_rt ns n f c i by unfold mz_rt; rw [if_pos hj, ex, hf x hx]))) ?_
        refine V.st (st' := []) rfl ?_
        refine V.iincN (ls' := [(0, .ref 21), (1, .ref 1), (2, .ref 15), (3, .ref 25), (4, .int (nI (i + 1)))]) dX0_translate_127 (j := 4) rfl (by decide) rfl ?_
        refine V.goto (tgt := 91) dX0_translate_130 (by decide) ?_
        exact ih (i + 1) _ (by omega) (fun j h1 h2 => mz_tok_rt (hi1 j (by omega) h2) (by omega)) hk
set_option maxRecDepth 100000 in
set_option maxHeartbeats 4000000 in
theorem cd_translate {G : am_G} (I A : Nat → Nat → Int32) (nv ns : Nat) (hs : I 4 4 = nI ns) (hns : ns ≤ 60) (hnv : nv ≤ 24) (hsw : ∀ s, s < ns → mz_sw nv (A 5 s) (A 6 s) (A 7 s) (A 8 s)) (h9 : ∀ s, s < ns → A 9 s = mz_anew (A 5) (A 6) s) (h10 : ∀ s, s < ns → A 10 s = mz_tak0 (A 5) (A 6) (A 7) s) (h11 : ∀ s, s < ns → A 11 s = mz_tak1 (A 5) (A 7) (A 8) s) : Cm G MX0_translate 4 99 [.ref 21, .ref 1, .ref 15, .ref 25] I A (fun r I' A' => r = none ∧ ∃ c n f f2, mz_cds (A 5) (A 6) (A 7) (A 8) (A 2) (A 20) ns 0 (fun _ => (0 : Int32)) (fun _ => (0 : Int32)) (cz_v A) 0 (A 22) c n f ∧ n ≤ 4 * ns ∧ upI I 25 4 (nI n) = I' ∧ upA (cz_CC A (mz_rts ns n f n 0 c)) 22 f2 = A') := by
  refine Cm.of (by decide) (Nat.le_of_ble_eq_true rfl) rfl ?_
  show V G MX0_translate (am_R 4 99 0 0) _ 0 0 0 [(0, .ref 21), (1, .ref 1), (2, .ref 15), (3, .ref 25)] [] (hp I A)
  refine V.aload_n (j := 3) rfl dX0_translate_0 ?_
  refine V.iconst (v := nI 0) (by decide) dX0_translate_1 ?_
  refine V.puti dX0_translate_2 pX0_15 rfl rfl ?_
  refine V.iconst (v := nI 0) (by decide) dX0_translate_5 ?_
  refine V.istore (ls' := [(0, .ref 21), (1, .ref 1), (2, .ref 15), (3, .ref 25), (4, .int (nI 0))]) dX0_translate_6 (by decide) rfl ?_
  refine V.hpe (I' := (upI I 25 4 (nI 0))) (A' := (upA (cz_CC A (cz_v A)) 22 (A 22))) rfl (by rw [cz_CCv, upA_i]) ?_
  refine cl_tr1 I A nv ns hs hns hnv hsw h9 h10 h11 ns 0 _ 0 _ (by omega) (by omega) (fun c n f hc hn => ?_)
  refine V.aload_n (j := 1) rfl dX0_translate_55 ?_
  refine V.getr (q := 4) dX0_translate_56 fX0_21 rfl rfl ?_
  refine V.geti (v := nI ns) dX0_translate_59 fX0_15 rfl rfl hs ?_
  refine V.istore (ls' := [(0, .ref 21), (1, .ref 1), (2, .ref 15), (3, .ref 25), (4, .int (nI ns))]) dX0_translate_62 (by decide) rfl ?_
  refine cl_tr2 (upI I 25 4 (nI n)) (cz_CC A c) n rfl (61 - ns) ns f (by omega) ?_
  refine V.iconst (v := nI 0) (by decide) dX0_translate_88 ?_
  refine V.istore (ls' := [(0, .ref 21), (1, .ref 1), (2, .ref 15), (3, .ref 25), (4, .int (nI 0))]) dX0_translate_89 (by decide) rfl ?_
  refine V.hpe (A' := (cz_CC (upA A 22 (cz_fl (nI n) (61 - ns) ns f)) c)) rfl (by have e := cz_CC_22 (A := A) (c := cz_v A) (c' := c) (f := cz_fl (nI n) (61 - ns) ns f); rw [cz_CCv] at e; exact e.symm) ?_
  refine cl_tr3 (upI I 25 4 (nI n)) (upA A 22 (cz_fl (nI n) (61 - ns) ns f)) n rfl (by omega) ns f (fun x hx => ?_) n 0 c (by omega) (fun j h1 h2 => mz_cds_ok hsw ns 0 _ _ _ 0 _ c n f (by omega) (fun j hj => absurd hj (Nat.not_lt_zero _)) hc j h2) ?_
  · show cz_fl (nI n) (61 - ns) ns f x = _
    rw [cz_fl_at, nI_clamp (by omega)]
    by_cases q : ns ≤ x
    · rw [if_pos (by omega), if_pos ((nI_leI (by omega) (by omega)).mpr q)]
    · rw [if_neg (by omega), if_neg (fun z => q ((nI_leI (by omega) (by omega)).mp z))]
  · refine V.rv dX0_translate_133 rfl ?_
    refine ⟨rfl, c, n, f, cz_fl (nI n) (61 - ns) ns f, hc, hn, rfl, ?_⟩
    have e := cz_CC_22 (A := A) (c := cz_v A) (c' := mz_rts ns n f n 0 c) (f := cz_fl (nI n) (61 - ns) ns f)
    rw [cz_CCv] at e
    exact e.symm
