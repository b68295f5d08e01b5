/-- n places cannot fill n + 1 -/
theorem pg_gap : ∀ (n : Nat) (g : Nat → Nat), ∃ k, k ≤ n ∧ ∀ u, u < n → ¬ g u = k
  | 0, _ => ⟨0, Nat.le_refl _, fun _ h => absurd h (Nat.not_lt_zero _)⟩
  | n + 1, g => by
    obtain ⟨k, h1, h2⟩ := pg_gap n (fun u => if g n < g u then g u - 1 else g u)
    by_cases hk : k < g n
    · refine ⟨k, by omega, fun u hu => ?_⟩
      by_cases hun : u = n
      · subst hun; omega
      · have h3 := h2 u (by omega)
        split at h3 <;> omega
    · refine ⟨k + 1, by omega, fun u hu => ?_⟩
      by_cases hun : u = n
      · subst hun; omega
      · have h3 := h2 u (by omega)
        split at h3 <;> omega
theorem mz_hasfree2 (nv : Nat) (hnv : nv ≤ 24) (w : Int32) (hm : Nat → Int32) : ∃ k, 100 ≤ k ∧ k ≤ 124 ∧ mz_free nv w hm (nI k) := by
  obtain ⟨k, h1, h2⟩ := pg_gap nv (fun u => (hm u).toNatClampNeg - 100)
  refine ⟨100 + k, by omega, by omega, fun u hu => Or.inr fun q => h2 u hu ?_⟩
  rw [q, nI_clamp (by omega)]
  omega
theorem mz_hasfree (nv : Nat) (hnv : nv ≤ 24) (w : Int32) (hm : Nat → Int32) : ∃ k, 100 ≤ k ∧ mz_free nv w hm (nI k) := by
  obtain ⟨k, h1, -, h2⟩ := mz_hasfree2 nv hnv w hm
  exact ⟨k, h1, h2⟩
/-- a row whose places below n but h tell numbers below b -/
def mz_ok (n h b : Nat) (o : Nat → Int32) : Prop := ∀ j, j < n → ¬ j = h → ∃ t, t < b ∧ o j = nI t
/-- where a value of weight x goes, and the row with the others moved on -/
def mz_ins (wt : Nat → Int32) (x : Int32) : Nat → (Nat → Int32) → Nat × (Nat → Int32)
  | 0, o => (0, o)
  | k + 1, o => if x ≤ wt (o k).toNatClampNeg then (k + 1, o) else mz_ins wt x k (upd o (k + 1) (o k))
theorem mz_ok_shift {n k b : Nat} {o : Nat → Int32} (h : mz_ok n (k + 1) b o) (hk : k < n) : mz_ok n k b (upd o (k + 1) (o k)) := by
  intro j hj hne
  by_cases h1 : j = k + 1
  · subst h1
    obtain ⟨t, h2, h3⟩ := h k hk (by omega)
    exact ⟨t, h2, by simp [upd, h3]⟩
  · obtain ⟨t, h2, h3⟩ := h j hj h1
    exact ⟨t, h2, by simp [upd, h1, h3]⟩
theorem mz_ok_fill {n k b v : Nat} {o : Nat → Int32} (h : mz_ok n k b o) (hv : v < b + 1) : mz_ok n n (b + 1) (upd o k (nI v)) := by
  intro j hj _
  by_cases h1 : j = k
  · subst h1; exact ⟨v, hv, by simp [upd]⟩
  · obtain ⟨t, h2, h3⟩ := h j hj h1
    exact ⟨t, by omega, by simp [upd, h1, h3]⟩
theorem mz_ins_ok (wt : Nat → Int32) (x : Int32) {n b : Nat} : ∀ (k : Nat) (o : Nat → Int32), k < n → mz_ok n k b o → mz_ok n (mz_ins wt x k o).1 b (mz_ins wt x k o).2 ∧ (mz_ins wt x k o).1 ≤ k
  | 0, o, _, h => ⟨h, Nat.le_refl _⟩
  | k + 1, o, hk, h => by
    unfold mz_ins
    split
    · exact ⟨h, Nat.le_refl _⟩
    · obtain ⟨h1, h2⟩ := mz_ins_ok wt x k _ (by omega) (mz_ok_shift h (by omega))
      exact ⟨h1, by omega⟩
/-- the order: values put in one after another -/
def mz_sort (wt : Nat → Int32) : Nat → Nat → (Nat → Int32) → Nat → Int32
  | 0, _, o => o
  | m + 1, v, o => mz_sort wt m (v + 1) (upd (mz_ins wt (wt v) v o).2 (mz_ins wt (wt v) v o).1 (nI v))
def mz_none : Nat → Nat → (Nat → Int32) → Nat → Int32
  | 0, _, f => f
  | m + 1, v, f => mz_none m (v + 1) (upd f v (-1))
/-- the homes, given one after another -/
def mz_set (nv ns : Nat) (op fa fb cl rg wy od : Nat → Int32) : Nat → Nat → (Nat → Int32) → (Nat → Int32) → Prop
  | 0, _, hm, hm' => hm' = hm
  | m + 1, i, hm, hm' => ∃ t cc R x, t < nv ∧ cc < 2 ∧ R ≤ 8 ∧ od i = nI t ∧ cl t = nI cc ∧ rg cc = nI R ∧ mz_home R (fun k => mz_J nv ns op fa fb cl hm t cc k) (fun k => mz_free nv (wy t) hm (nI k)) x ∧ mz_set nv ns op fa fb cl rg wy od m (i + 1) (upd hm t (nI x)) hm'
set_option maxRecDepth 100000 in
set_option maxHeartbeats 4000000 in
theorem ml_settle1 {G : am_G} {Fn : Array Value → State → List Frame → State → Prop} (I A : Nat → Nat → Int32) (v : Nat) (hv : v < 24) (g : Nat → Int32) : ∀ (k : Nat) (o : Nat → Int32), k ≤ v → mz_ok (v + 1) k v o → V G MX8_settle (am_R 3 73 0 0) Fn 0 0 66 [(0, .ref mM), (1, .int (nI v)), (2, .int (nI (mz_ins (A m_weights) (A m_weights v) k o).1))] [] (hp I (upA (upA A m_order (mz_ins (A m_weights) (A m_weights v) k o).2) m_homes g)) → V G MX8_settle (am_R 3 73 0 0) Fn 0 0 20 [(0, .ref mM), (1, .int (nI v)), (2, .int (nI k))] [] (hp I (upA (upA A m_order o) m_homes g)) := by
  intro k
  induction k with
  | zero =>
    intro o hi0 hi1 hk
    refine V.iload_n (j := 2) rfl dX8_settle_20 ?_
    refine V.if_le (tgt := 66) dX8_settle_21 (by decide) (fun _ => hk) (fun z => absurd (by decide) z)
  | succ k ih =>
    intro o hi0 hi1 hk
    refine V.iload_n (j := 2) rfl dX8_settle_20 ?_
    refine V.if_leN (tgt := 66) dX8_settle_21 (by decide) (by omega) (fun c1 => ?_) (fun c1 => ?_)
    · exact absurd c1 (by omega)
    · refine V.aload_n (j := 0) rfl dX8_settle_24 ?_
      refine V.getr (q := m_weights) dX8_settle_25 fX8_40 rfl rfl ?_
      refine V.aload_n (j := 0) rfl dX8_settle_28 ?_
      refine V.getr (q := m_order) dX8_settle_29 fX8_43 rfl rfl ?_
      refine V.iload_n (j := 2) rfl dX8_settle_32 ?_
      refine V.iconst (v := nI 1) (by decide) dX8_settle_33 ?_
      refine V.isubN dX8_settle_34 (by omega) ?_
      refine V.st (st' := [.int (nI k), .ref m_order, .ref m_weights]) rfl ?_
      refine V.lda (v := o k) dX8_settle_35 rfl (by omega) (by decide) rfl ?_
      obtain ⟨t, ht, et⟩ := hi1 k (by omega) (by omega)
      refine V.st (st' := [.int (nI t), .ref m_weights]) (by rw [et]) ?_
      refine V.lda (v := A m_weights t) dX8_settle_36 rfl (by omega) (by decide) rfl ?_
      refine V.aload_n (j := 0) rfl dX8_settle_37 ?_
      refine V.getr (q := m_weights) dX8_settle_38 fX8_40 rfl rfl ?_
      refine V.iload_n (j := 1) rfl dX8_settle_41 ?_
      refine V.lda (v := A m_weights v) dX8_settle_42 rfl (by omega) (by decide) rfl ?_
      refine V.icmp_ge (tgt := 66) dX8_settle_43 (by decide) (fun c2 => ?_) (fun c2 => ?_)
      · unfold mz_ins at hk
        rw [if_pos (by rw [et, nI_clamp (by omega)]; exact c2)] at hk
        exact hk
      · refine V.aload_n (j := 0) rfl dX8_settle_46 ?_
        refine V.getr (q := m_order) dX8_settle_47 fX8_43 rfl rfl ?_
        refine V.iload_n (j := 2) rfl dX8_settle_50 ?_
        refine V.aload_n (j := 0) rfl dX8_settle_51 ?_
        refine V.getr (q := m_order) dX8_settle_52 fX8_43 rfl rfl ?_
        refine V.iload_n (j := 2) rfl dX8_settle_55 ?_
        refine V.iconst (v := nI 1) (by decide) dX8_settle_56 ?_
        refine V.isubN dX8_settle_57 (by omega) ?_
        refine V.st (st' := [.int (nI k), .ref m_order, .int (nI (k + 1)), .ref m_order]) rfl ?_
        refine V.lda (v := o k) dX8_settle_58 rfl (by omega) (by decide) rfl ?_
        refine V.sta (g := upd o (k + 1) (o k)) dX8_settle_59 rfl (by omega) (by decide) rfl ?_
        refine V.hpe (A' := (upA (upA A m_order (upd o (k + 1) (o k))) m_homes (g))) rfl (upA_r2 (by decide)) ?_
        refine V.ideclN (ls' := [(0, .ref mM), (1, .int (nI v)), (2, .int (nI k))]) dX8_settle_60 (j := 2) rfl (by decide) rfl ?_
        refine V.goto (tgt := 20) dX8_settle_63 (by decide) ?_
        unfold mz_ins at hk
        rw [if_neg (by rw [et, nI_clamp (by omega)]; exact c2)] at hk
        exact ih _ (by omega) (mz_ok_shift hi1 (by omega)) hk
set_option maxRecDepth 100000 in
set_option maxHeartbeats 4000000 in
theorem ml_settle2 {G : am_G} {Fn : Array Value → State → List Frame → State → Prop} (I A : Nat → Nat → Int32) (nv : Nat) (hn : I mM 0 = nI nv) (hnv : nv ≤ 24) : ∀ (m : Nat) (v : Nat) (o : Nat → Int32) (g : Nat → Int32), v + m = nv → mz_ok v v v o → (mz_ok nv nv nv (mz_sort (A m_weights) m v o) → V G MX8_settle (am_R 3 73 0 0) Fn 0 0 86 [(0, .ref mM)] [] (hp I (upA (upA A m_order (mz_sort (A m_weights) m v o)) m_homes (mz_none m v g)))) → V G MX8_settle (am_R 3 73 0 0) Fn 0 0 10 [(0, .ref mM), (1, .int (nI v))] [] (hp I (upA (upA A m_order (o)) m_homes (g))) := by
  intro m
  induction m with
  | zero =>
    intro v o g hi0 hi1 hk
    obtain rfl : nv = v := by omega
    refine V.iload_n (j := 1) rfl dX8_settle_10 ?_
    refine V.aload_n (j := 0) rfl dX8_settle_11 ?_
    refine V.geti (v := nI nv) dX8_settle_12 fX8_79 rfl rfl hn ?_
    refine V.icmp_geN (tgt := 86) dX8_settle_15 (by decide) (by omega) (by omega) (fun c1 => ?_) (fun c1 => ?_)
    · refine V.fewer [0] rfl ?_
      exact hk hi1
    · exact absurd c1 (by omega)
  | succ m ih =>
    intro v o g hi0 hi1 hk
    refine V.iload_n (j := 1) rfl dX8_settle_10 ?_
    refine V.aload_n (j := 0) rfl dX8_settle_11 ?_
    refine V.geti (v := nI nv) dX8_settle_12 fX8_79 rfl rfl hn ?_
    refine V.icmp_geN (tgt := 86) dX8_settle_15 (by decide) (by omega) (by omega) (fun c2 => ?_) (fun c2 => ?_)
    · exact absurd c2 (by omega)
    · refine V.iload_n (j := 1) rfl dX8_settle_18 ?_
      refine V.istore_n (ls' := [(0, .ref mM), (1, .int (nI v)), (2, .int (nI v))]) dX8_settle_19 (by decide) rfl ?_
      have hok : mz_ok (v + 1) v v o := fun j hj hne => hi1 j (by omega) (by omega)
      obtain ⟨hok2, hle⟩ := mz_ins_ok (A m_weights) (A m_weights v) v o (by omega) hok
      refine ml_settle1 I A v (by omega) g v o (Nat.le_refl _) hok ?_
      refine V.aload_n (j := 0) rfl dX8_settle_66 ?_
      refine V.getr (q := m_order) dX8_settle_67 fX8_43 rfl rfl ?_
      refine V.iload_n (j := 2) rfl dX8_settle_70 ?_
      refine V.iload_n (j := 1) rfl dX8_settle_71 ?_
      refine V.sta (g := upd ((mz_ins (A m_weights) (A m_weights v) v o).2) ((mz_ins (A m_weights) (A m_weights v) v o).1) (nI v)) dX8_settle_72 rfl (by omega) (by decide) rfl ?_
      refine V.hpe (A' := (upA (upA A m_order (upd ((mz_ins (A m_weights) (A m_weights v) v o).2) ((mz_ins (A m_weights) (A m_weights v) v o).1) (nI v))) m_homes (g))) rfl (upA_r2 (by decide)) ?_
      refine V.aload_n (j := 0) rfl dX8_settle_73 ?_
      refine V.getr (q := m_homes) dX8_settle_74 fX8_46 rfl rfl ?_
      refine V.iload_n (j := 1) rfl dX8_settle_77 ?_
      refine V.iconst (v := (-1)) (by decide) dX8_settle_78 ?_
      refine V.sta (g := upd g v ((-1))) dX8_settle_79 rfl (by omega) (by decide) rfl ?_
      refine V.hpe (A' := (upA (upA A m_order (upd ((mz_ins (A m_weights) (A m_weights v) v o).2) ((mz_ins (A m_weights) (A m_weights v) v o).1) (nI v))) m_homes (upd g v ((-1))))) rfl upA_u ?_
      refine V.iincN (ls' := [(0, .ref mM), (1, .int (nI (v + 1))), (2, .int (nI ((mz_ins (A m_weights) (A m_weights v) v o).1)))]) dX8_settle_80 (j := 1) rfl (by decide) rfl ?_
      refine V.goto (tgt := 10) dX8_settle_83 (by decide) ?_
      refine V.fewer [0, 1] rfl ?_
      exact ih (v + 1) _ _ (by omega) (mz_ok_fill hok2 (by omega)) hk
set_option maxRecDepth 100000 in
set_option maxHeartbeats 4000000 in
theorem ml_settle3 {G : am_G} {Fn : Array Value → State → List Frame → State → Prop} (I A : Nat → Nat → Int32) (nv : Nat) (hn : I mM 0 = nI nv) (hnv : nv ≤ 24) (ns : Nat) (hs : I mM 2 = nI ns) (hns : ns ≤ 60) (hcl : ∀ v, v < nv → ∃ cc, cc < 2 ∧ A m_classes v = nI cc) (hrg : ∀ c, c < 2 → ∃ R, R ≤ 8 ∧ A m_registers c = nI R) (o : Nat → Int32) (ho : mz_ok nv nv nv o) : ∀ (m : Nat) (i : Nat) (h : Nat → Int32), i + m = nv → (∀ h' : Nat → Int32, mz_set nv ns (A m_ops) (A m_first) (A m_second) (A m_classes) (A m_registers) (A m_way) o m i h h' → V G MX8_settle (am_R 3 73 0 0) Fn 0 0 123 [(0, .ref mM)] [] (hp I (upA (upA A m_order o) m_homes h'))) → V G MX8_settle (am_R 3 73 0 0) Fn 0 0 88 [(0, .ref mM), (1, .int (nI i))] [] (hp I (upA (upA A m_order (o)) m_homes (h))) := by
  intro m
  induction m with
  | zero =>
    intro i h hi0 hk
    obtain rfl : nv = i := by omega
    refine V.iload_n (j := 1) rfl dX8_settle_88 ?_
    refine V.aload_n (j := 0) rfl dX8_settle_89 ?_
    refine V.geti (v := nI nv) dX8_settle_90 fX8_79 rfl rfl hn ?_
    refine V.icmp_geN (tgt := 123) dX8_settle_93 (by decide) (by omega) (by omega) (fun c1 => ?_) (fun c1 => ?_)
    · refine V.fewer [0] rfl ?_
      exact hk h rfl
    · exact absurd c1 (by omega)
  | succ m ih =>
    intro i h hi0 hk
    obtain ⟨t, ht, et⟩ := ho i (by omega) (by omega)
    obtain ⟨cc, hcc, ec⟩ := hcl t ht
    obtain ⟨R, hR8, eR⟩ := hrg cc hcc
    refine V.iload_n (j := 1) rfl dX8_settle_88 ?_
    refine V.aload_n (j := 0) rfl dX8_settle_89 ?_
    refine V.geti (v := nI nv) dX8_settle_90 fX8_79 rfl rfl hn ?_
    refine V.icmp_geN (tgt := 123) dX8_settle_93 (by decide) (by omega) (by omega) (fun c2 => ?_) (fun c2 => ?_)
    · exact absurd c2 (by omega)
    · refine V.aload_n (j := 0) rfl dX8_settle_96 ?_
      refine V.getr (q := m_homes) dX8_settle_97 fX8_46 rfl rfl ?_
      refine V.aload_n (j := 0) rfl dX8_settle_100 ?_
      refine V.getr (q := m_order) dX8_settle_101 fX8_43 rfl rfl ?_
      refine V.iload_n (j := 1) rfl dX8_settle_104 ?_
      refine V.lda (v := o i) dX8_settle_105 rfl (by omega) (by decide) rfl ?_
      refine V.st (st' := [.int (nI t), .ref m_homes]) (by rw [et]) ?_
      refine V.aload_n (j := 0) rfl dX8_settle_106 ?_
      refine V.aload_n (j := 0) rfl dX8_settle_107 ?_
      refine V.getr (q := m_order) dX8_settle_108 fX8_43 rfl rfl ?_
      refine V.iload_n (j := 1) rfl dX8_settle_111 ?_
      refine V.lda (v := o i) dX8_settle_112 rfl (by omega) (by decide) rfl ?_
      refine V.st (st' := [.int (nI t), .ref mM, .int (nI t), .ref m_homes]) (by rw [et]) ?_
      refine V.cV (As := [.int (nI t)]) (st := [.int (nI t), .ref m_homes]) dX8_settle_113 sX8_124 iX8_homeFor lX8_homeFor rfl rfl (md_homeFor I (upA (upA A m_order (o)) m_homes (h)) nv hn hnv ns hs hns t cc R ht ec hcc eR hR8 (mz_hasfree nv hnv _ _)) ⟨by decide, by decide⟩ (Nat.le_of_ble_eq_true rfl) rfl (fun r I' A' hq => ?_)
      obtain ⟨x, rfl, hx, rfl, rfl⟩ := hq
      refine V.st (st' := [.int (nI x), .int (nI t), .ref m_homes]) rfl ?_
      refine V.sta (g := upd h t (nI x)) dX8_settle_116 rfl (by omega) (by decide) rfl ?_
      refine V.hpe (A' := (upA (upA A m_order (o)) m_homes (upd h t (nI x)))) rfl upA_u ?_
      refine V.iincN (ls' := [(0, .ref mM), (1, .int (nI (i + 1)))]) dX8_settle_117 (j := 1) rfl (by decide) rfl ?_
      refine V.goto (tgt := 88) dX8_settle_120 (by decide) ?_
      exact ih (i + 1) _ (by omega) (fun h' q => hk h' ⟨t, cc, R, x, ht, hcc, hR8, et, ec, eR, hx, q⟩)
/-- the flow's rows behind pass k, in the reference -/
def mz_fl (ns : Nat) (A : Nat → Nat → Int32) (k : Nat) : (Nat → Int32) × (Nat → Int32) := mz_it ns (A m_ops) (A m_first) (A m_second) (A m_third) (mz_fill ns 0 (A m_before)) (mz_fill ns 0 (A m_behind)) (k + 1)
def mz_fm (ns : Nat) (A : Nat → Nat → Int32) (k : Nat) : Int32 := mz_mo ns (A m_ops) (A m_first) (A m_second) (A m_third) (mz_fill ns 0 (A m_before)) (mz_fill ns 0 (A m_behind)) k
noncomputable def mz_W (nv ns : Nat) (A : Nat → Nat → Int32) (bh : Nat → Int32) : Nat → Int32 := mz_meetW nv (A m_ops) (A m_first) (A m_second) (A m_classes) bh ns 0 (mz_fill nv 0 (A m_way))
def mz_G (nv ns : Nat) (A : Nat → Nat → Int32) : Nat → Int32 := mz_meetG (A m_ops) (A m_first) (A m_second) (A m_third) ns 0 (mz_fill nv 0 (A m_weights))
def mz_O (nv ns : Nat) (A : Nat → Nat → Int32) : Nat → Int32 := mz_sort (mz_G nv ns A) nv 0 (A m_order)
def mz_N (nv : Nat) (A : Nat → Nat → Int32) : Nat → Int32 := mz_none nv 0 (A m_homes)
/-- what the reference's program is: well formed -/
def mz_wf (nv ns : Nat) (I A : Nat → Nat → Int32) : Prop := I mM 0 = nI nv ∧ nv ≤ 24 ∧ I mM 2 = nI ns ∧ ns ≤ 60 ∧ (∀ s, s < ns → A m_ops s = nI 8 → ¬ A m_first s < 0) ∧ (∀ s, s < ns → A m_ops s = nI 7 → ¬ A m_third s < 0) ∧
  (∀ s, s < ns → mz_anew (A m_ops) (A m_first) s = (-1) ∨ ∃ a, a < nv ∧ mz_anew (A m_ops) (A m_first) s = nI a) ∧ (∀ s, s < ns → mz_tak0 (A m_ops) (A m_first) (A m_second) s = (-1) ∨ ∃ a, a < nv ∧ mz_tak0 (A m_ops) (A m_first) (A m_second) s = nI a) ∧ (∀ s, s < ns → mz_tak1 (A m_ops) (A m_second) (A m_third) s = (-1) ∨ ∃ a, a < nv ∧ mz_tak1 (A m_ops) (A m_second) (A m_third) s = nI a) ∧
  (∀ v, v < nv → ∃ cc, cc < 2 ∧ A m_classes v = nI cc) ∧ (∀ c, c < 2 → ∃ R, R ≤ 8 ∧ A m_registers c = nI R) ∧ (∃ k, mz_fm ns A k = nI 0)
/-- what settle leaves -/
def mz_stl (nv ns : Nat) (A A' : Nat → Nat → Int32) : Prop := ∃ (k : Nat) (hm : Nat → Int32), mz_fm ns A k = nI 0 ∧ mz_set nv ns (A m_ops) (A m_first) (A m_second) (A m_classes) (A m_registers) (mz_W nv ns A (mz_fl ns A k).2) (mz_O nv ns A) nv 0 (mz_N nv A) hm ∧ upA (upA (upA (upA (upA (upA A m_before (mz_fl ns A k).1) m_behind (mz_fl ns A k).2) m_way (mz_W nv ns A (mz_fl ns A k).2)) m_weights (mz_G nv ns A)) m_order (mz_O nv ns A)) m_homes hm = A'
set_option maxRecDepth 100000 in
set_option maxHeartbeats 4000000 in
theorem md_settle {G : am_G} (I A : Nat → Nat → Int32) (nv ns : Nat) (hW : mz_wf nv ns I A) : Cm G MX8_settle 3 73 [.ref mM] I A (fun r I' A' => r = none ∧ I = I' ∧ mz_stl nv ns A A') := by
  refine Cm.of (by decide) (Nat.le_of_ble_eq_true rfl) rfl ?_
  show V G MX8_settle (am_R 3 73 0 0) _ 0 0 0 [(0, .ref mM)] [] (hp I A)
  obtain ⟨hn, hnv, hs, hns, h8, h7, hA, h0, h1, hcl, hrg, hT⟩ := hW
  refine V.aload_n (j := 0) rfl dX8_settle_0 ?_
  refine V.cV (As := []) (st := []) dX8_settle_1 sX8_118 iX8_flow lX8_flow rfl rfl (md_flow I A ns hs hns h8 h7 hT) ⟨by decide, by decide⟩ (Nat.le_of_ble_eq_true rfl) rfl (fun r I' A' hq => ?_)
  obtain ⟨rfl, rfl, kf, hkf, rfl⟩ := hq
  refine V.st (st' := []) rfl ?_
  refine V.aload_n (j := 0) rfl dX8_settle_4 ?_
  refine V.cV (As := []) (st := []) dX8_settle_5 sX8_121 iX8_meet lX8_meet rfl rfl (md_meet I (upA (upA A m_before ((mz_fl ns A kf).1)) m_behind ((mz_fl ns A kf).2)) nv hn hnv ns hs hns hA h0 h1) ⟨by decide, by decide⟩ (Nat.le_of_ble_eq_true rfl) rfl (fun r I' A' hq => ?_)
  obtain ⟨rfl, rfl, rfl⟩ := hq
  refine V.st (st' := []) rfl ?_
  refine V.iconst (v := nI 0) (by decide) dX8_settle_8 ?_
  refine V.istore_n (ls' := [(0, .ref mM), (1, .int (nI 0))]) dX8_settle_9 (by decide) rfl ?_
  refine V.hpe (A' := (upA (upA (upA (upA (upA (upA A m_before ((mz_fl ns A kf).1)) m_behind ((mz_fl ns A kf).2)) m_way (mz_W nv ns A (mz_fl ns A kf).2)) m_weights (mz_G nv ns A)) m_order (A m_order)) m_homes (A m_homes))) rfl (by rw [show A m_homes = (upA (upA (upA (upA (upA A m_before ((mz_fl ns A kf).1)) m_behind ((mz_fl ns A kf).2)) m_way (mz_W nv ns A (mz_fl ns A kf).2)) m_weights (mz_G nv ns A)) m_order (A m_order)) m_homes from rfl, upA_i, show A m_order = (upA (upA (upA (upA A m_before ((mz_fl ns A kf).1)) m_behind ((mz_fl ns A kf).2)) m_way (mz_W nv ns A (mz_fl ns A kf).2)) m_weights (mz_G nv ns A)) m_order from rfl, upA_i]; rfl) ?_
  refine ml_settle2 I (upA (upA (upA (upA A m_before ((mz_fl ns A kf).1)) m_behind ((mz_fl ns A kf).2)) m_way (mz_W nv ns A (mz_fl ns A kf).2)) m_weights (mz_G nv ns A)) nv hn hnv nv 0 _ _ (by omega) (fun j hj => absurd hj (Nat.not_lt_zero _)) (fun hok => ?_)
  refine V.iconst (v := nI 0) (by decide) dX8_settle_86 ?_
  refine V.istore_n (ls' := [(0, .ref mM), (1, .int (nI 0))]) dX8_settle_87 (by decide) rfl ?_
  refine ml_settle3 I (upA (upA (upA (upA A m_before ((mz_fl ns A kf).1)) m_behind ((mz_fl ns A kf).2)) m_way (mz_W nv ns A (mz_fl ns A kf).2)) m_weights (mz_G nv ns A)) nv hn hnv ns hs hns hcl hrg (mz_O nv ns A) hok nv 0 (mz_N nv A) (by omega) (fun hm hq => ?_)
  refine V.rv dX8_settle_123 rfl ?_
  exact ⟨rfl, rfl, kf, hm, hkf, hq, rfl⟩
