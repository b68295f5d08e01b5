/-- a row filled with 0 over m places from i on -/
def mz_fill : Nat → Nat → (Nat → Int32) → Nat → Int32
  | 0, _, f => f
  | m + 1, i, f => mz_fill m (i + 1) (upd f i (nI 0))
theorem mz_fill_at : ∀ (m i : Nat) (f : Nat → Int32) (s : Nat), mz_fill m i f s = if i ≤ s ∧ s < i + m then nI 0 else f s
  | 0, i, f, s => by rw [if_neg (by omega)]; rfl
  | m + 1, i, f, s => by
    show mz_fill m (i + 1) (upd f i (nI 0)) s = _
    rw [mz_fill_at m (i + 1)]
    by_cases h : s = i
    · subst h
      rw [if_neg (by omega), if_pos (by omega)]
      simp [upd]
    · by_cases h2 : i + 1 ≤ s ∧ s < i + 1 + m
      · rw [if_pos h2, if_pos (by omega)]
      · rw [if_neg h2, if_neg (by omega)]
        simp [upd, h]
def mz_pre : Nat → Int32
  | 0 => (-1)
  | s + 1 => nI s
theorem mz_pre_dec (m : Nat) : nI m + Int32.ofInt (-1) = mz_pre m := by
  cases m with
  | zero => decide
  | succ k => exact pk_m1 k
theorem mz_pre_sub (m : Nat) : nI m - nI 1 = mz_pre m := by
  cases m with
  | zero => decide
  | succ k => exact nI_pred k
/-- one step of the flow: what is live behind it and before it, and whether something moved -/
def mz_out (ns : Nat) (op fa fc bf : Nat → Int32) (s : Nat) : Int32 := (if op s = nI 8 then mz_at ns bf (fa s) else if op s = nI 10 then nI 0 else mz_at ns bf (nI (s + 1))) ||| (if op s = nI 7 then mz_at ns bf (fc s) else nI 0)
def mz_inn (ns : Nat) (op fa fb fc bf : Nat → Int32) (s : Nat) : Int32 := mz_taking op fa fb fc s ||| (if mz_anew op fa s = (-1) then mz_out ns op fa fc bf s else mz_out ns op fa fc bf s &&& ((nI 1 <<< (mz_anew op fa s &&& 31)) ^^^ (-1)))
def mz_mor (ns : Nat) (op fa fb fc bf bh : Nat → Int32) (mo : Int32) (s : Nat) : Int32 := if ¬ mo = 0 then nI 1 else if ¬ mz_inn ns op fa fb fc bf s = bf s then nI 1 else if mz_out ns op fa fc bf s = bh s then nI 0 else nI 1
/-- a pass over the steps, the last one first -/
def mz_pass (ns : Nat) (op fa fb fc : Nat → Int32) : Nat → (Nat → Int32) → (Nat → Int32) → Int32 → (Nat → Int32) × (Nat → Int32) × Int32
  | 0, bf, bh, mo => (bf, bh, mo)
  | s + 1, bf, bh, mo => mz_pass ns op fa fb fc s (upd bf s (mz_inn ns op fa fb fc bf s)) (upd bh s (mz_out ns op fa fc bf s)) (mz_mor ns op fa fb fc bf bh mo s)
def mz_it (ns : Nat) (op fa fb fc bf bh : Nat → Int32) : Nat → (Nat → Int32) × (Nat → Int32)
  | 0 => (bf, bh)
  | k + 1 => ((mz_pass ns op fa fb fc ns (mz_it ns op fa fb fc bf bh k).1 (mz_it ns op fa fb fc bf bh k).2 (nI 0)).1, (mz_pass ns op fa fb fc ns (mz_it ns op fa fb fc bf bh k).1 (mz_it ns op fa fb fc bf bh k).2 (nI 0)).2.1)
def mz_mo (ns : Nat) (op fa fb fc bf bh : Nat → Int32) (k : Nat) : Int32 := (mz_pass ns op fa fb fc ns (mz_it ns op fa fb fc bf bh k).1 (mz_it ns op fa fb fc bf bh k).2 (nI 0)).2.2
set_option maxRecDepth 100000 in
set_option maxHeartbeats 4000000 in
theorem ml_flow1 {G : am_G} {Fn : Array Value → State → List Frame → State → Prop} (I A : Nat → Nat → Int32) (ns : Nat) (hs : I mM 2 = nI ns) (hns : ns ≤ 60) : ∀ (m : Nat) (i : Nat) (f : Nat → Int32) (g : Nat → Int32), i + m = ns → V G MX8_flow (am_R 2 47 0 0) Fn 0 0 30 [(0, .ref mM), (1, .int (nI ns))] [] (hp I (upA (upA A m_before (mz_fill m i f)) m_behind (mz_fill m i g))) → V G MX8_flow (am_R 2 47 0 0) Fn 0 0 2 [(0, .ref mM), (1, .int (nI i))] [] (hp I (upA (upA A m_before (f)) m_behind (g))) := by
  intro m
  induction m with
  | zero =>
    intro i f g hi0 hk
    obtain rfl : ns = i := by omega
    refine V.iload_n (j := 1) rfl dX8_flow_2 ?_
    refine V.aload_n (j := 0) rfl dX8_flow_3 ?_
    refine V.geti (v := nI ns) dX8_flow_4 fX8_95 rfl rfl hs ?_
    refine V.icmp_geN (tgt := 30) dX8_flow_7 (by decide) (by omega) (by omega) (fun c1 => ?_) (fun c1 => ?_)
    · exact hk
    · exact absurd c1 (by omega)
  | succ m ih =>
    intro i f g hi0 hk
    refine V.iload_n (j := 1) rfl dX8_flow_2 ?_
    refine V.aload_n (j := 0) rfl dX8_flow_3 ?_
    refine V.geti (v := nI ns) dX8_flow_4 fX8_95 rfl rfl hs ?_
    refine V.icmp_geN (tgt := 30) dX8_flow_7 (by decide) (by omega) (by omega) (fun c2 => ?_) (fun c2 => ?_)
    · exact absurd c2 (by omega)
    · refine V.aload_n (j := 0) rfl dX8_flow_10 ?_
      refine V.getr (q := m_before) dX8_flow_11 fX8_31 rfl rfl ?_
      refine V.iload_n (j := 1) rfl dX8_flow_14 ?_
      refine V.iconst (v := nI 0) (by decide) dX8_flow_15 ?_
      refine V.sta (g := upd f i (nI 0)) dX8_flow_16 rfl (by omega) (by decide) rfl ?_
      refine V.hpe (A' := (upA (upA A m_before (upd f i (nI 0))) m_behind (g))) rfl (upA_r2 (by decide)) ?_
      refine V.aload_n (j := 0) rfl dX8_flow_17 ?_
      refine V.getr (q := m_behind) dX8_flow_18 fX8_34 rfl rfl ?_
      refine V.iload_n (j := 1) rfl dX8_flow_21 ?_
      refine V.iconst (v := nI 0) (by decide) dX8_flow_22 ?_
      refine V.sta (g := upd g i (nI 0)) dX8_flow_23 rfl (by omega) (by decide) rfl ?_
      refine V.hpe (A' := (upA (upA A m_before (upd f i (nI 0))) m_behind (upd g i (nI 0)))) rfl upA_u ?_
      refine V.iincN (ls' := [(0, .ref mM), (1, .int (nI (i + 1)))]) dX8_flow_24 (j := 1) rfl (by decide) rfl ?_
      refine V.goto (tgt := 2) dX8_flow_27 (by decide) ?_
      exact ih (i + 1) _ _ (by omega) hk
set_option maxRecDepth 100000 in
set_option maxHeartbeats 4000000 in
theorem ml_flow2 {G : am_G} {Fn : Array Value → State → List Frame → State → Prop} (I A : Nat → Nat → Int32) (ns : Nat) (hs : I mM 2 = nI ns) (hns : ns ≤ 60) (h8 : ∀ s, s < ns → A m_ops s = nI 8 → ¬ A m_first s < 0) (h7 : ∀ s, s < ns → A m_ops s = nI 7 → ¬ A m_third s < 0) : ∀ (m : Nat) (f : Nat → Int32) (g : Nat → Int32) (mo : Int32), m ≤ ns → V G MX8_flow (am_R 2 47 0 0) Fn 0 0 208 [(0, .ref mM), (1, .int (mz_pass ns (A m_ops) (A m_first) (A m_second) (A m_third) m f g mo).2.2)] [] (hp I (upA (upA A m_before (mz_pass ns (A m_ops) (A m_first) (A m_second) (A m_third) m f g mo).1) m_behind (mz_pass ns (A m_ops) (A m_first) (A m_second) (A m_third) m f g mo).2.1)) → V G MX8_flow (am_R 2 47 0 0) Fn 0 0 45 [(0, .ref mM), (1, .int mo), (2, .int (mz_pre m))] [] (hp I (upA (upA A m_before (f)) m_behind (g))) := by
  intro m
  induction m with
  | zero =>
    intro f g mo hi0 hk
    refine V.lse (ls' := [(0, .ref mM), (1, .int mo), (2, .int ((-1)))]) rfl ?_
    refine V.iload_n (j := 2) rfl dX8_flow_45 ?_
    refine V.if_lt (tgt := 208) dX8_flow_46 (by decide) (fun c1 => ?_) (fun c1 => ?_)
    · refine V.fewer [0, 1] rfl ?_
      exact hk
    · exact absurd (by decide) c1
  | succ m ih =>
    intro f g mo hi0 hk
    refine V.lse (ls' := [(0, .ref mM), (1, .int mo), (2, .int (nI m))]) rfl ?_
    refine V.iload_n (j := 2) rfl dX8_flow_45 ?_
    refine V.if_ltN (tgt := 208) dX8_flow_46 (by decide) (by omega) ?_
    refine V.aload_n (j := 0) rfl dX8_flow_49 ?_
    refine V.getr (q := m_ops) dX8_flow_50 fX8_13 rfl rfl ?_
    refine V.iload_n (j := 2) rfl dX8_flow_53 ?_
    refine V.lda (v := A m_ops m) dX8_flow_54 rfl (by omega) (by decide) rfl ?_
    refine V.istore_n (ls' := [(0, .ref mM), (1, .int mo), (2, .int (nI m)), (3, .int (A m_ops m))]) dX8_flow_55 (by decide) rfl ?_
    refine V.iload_n (j := 3) rfl dX8_flow_56 ?_
    refine V.bipush (v := nI 8) (by decide) dX8_flow_57 ?_
    have K3 : V G MX8_flow (am_R 2 47 0 0) Fn 0 0 92 [(0, .ref mM), (1, .int mo), (2, .int (nI m)), (3, .int (A m_ops m))] [.int (if A m_ops m = nI 8 then mz_at ns f (A m_first m) else if A m_ops m = nI 10 then nI 0 else mz_at ns f (nI (m + 1)))] (hp I (upA (upA A m_before (f)) m_behind (g))) := by
      refine V.istore (ls' := [(0, .ref mM), (1, .int mo), (2, .int (nI m)), (3, .int (A m_ops m)), (4, .int (if A m_ops m = nI 8 then mz_at ns f (A m_first m) else if A m_ops m = nI 10 then nI 0 else mz_at ns f (nI (m + 1))))]) dX8_flow_92 (by decide) rfl ?_
      refine V.iload (j := 4) rfl dX8_flow_94 ?_
      refine V.iload_n (j := 3) rfl dX8_flow_96 ?_
      refine V.bipush (v := nI 7) (by decide) dX8_flow_97 ?_
      have K4 : V G MX8_flow (am_R 2 47 0 0) Fn 0 0 116 [(0, .ref mM), (1, .int mo), (2, .int (nI m)), (3, .int (A m_ops m)), (4, .int (if A m_ops m = nI 8 then mz_at ns f (A m_first m) else if A m_ops m = nI 10 then nI 0 else mz_at ns f (nI (m + 1))))] [.int (if A m_ops m = nI 7 then mz_at ns f (A m_third m) else nI 0), .int (if A m_ops m = nI 8 then mz_at ns f (A m_first m) else if A m_ops m = nI 10 then nI 0 else mz_at ns f (nI (m + 1)))] (hp I (upA (upA A m_before (f)) m_behind (g))) := by
        refine V.ior dX8_flow_116 ?_
        refine V.istore (ls' := [(0, .ref mM), (1, .int mo), (2, .int (nI m)), (3, .int (A m_ops m)), (4, .int ((if A m_ops m = nI 8 then mz_at ns f (A m_first m) else if A m_ops m = nI 10 then nI 0 else mz_at ns f (nI (m + 1))) ||| (if A m_ops m = nI 7 then mz_at ns f (A m_third m) else nI 0)))]) dX8_flow_117 (by decide) rfl ?_
        refine V.lse (ls' := [(0, .ref mM), (1, .int mo), (2, .int (nI m)), (3, .int (A m_ops m)), (4, .int (mz_out ns (A m_ops) (A m_first) (A m_third) f m))]) rfl ?_
        refine V.aload_n (j := 0) rfl dX8_flow_119 ?_
        refine V.iload_n (j := 2) rfl dX8_flow_120 ?_
        refine V.cV (As := [.int (nI m)]) (st := []) dX8_flow_121 sX8_106 iX8_anew lX8_anew rfl rfl (md_anew I (upA (upA A m_before (f)) m_behind (g)) m (by omega)) ⟨by decide, by decide⟩ (Nat.le_of_ble_eq_true rfl) rfl (fun r I' A' hq => ?_)
        obtain ⟨rfl, rfl, rfl⟩ := hq
        refine V.st (st' := [.int (mz_anew (A m_ops) (A m_first) m)]) rfl ?_
        refine V.istore (ls' := [(0, .ref mM), (1, .int mo), (2, .int (nI m)), (3, .int (A m_ops m)), (4, .int (mz_out ns (A m_ops) (A m_first) (A m_third) f m)), (5, .int (mz_anew (A m_ops) (A m_first) m))]) dX8_flow_124 (by decide) rfl ?_
        refine V.aload_n (j := 0) rfl dX8_flow_126 ?_
        refine V.iload_n (j := 2) rfl dX8_flow_127 ?_
        refine V.cV (As := [.int (nI m)]) (st := []) dX8_flow_128 sX8_109 iX8_taking lX8_taking rfl rfl (md_taking I (upA (upA A m_before (f)) m_behind (g)) m (by omega)) ⟨by decide, by decide⟩ (Nat.le_of_ble_eq_true rfl) rfl (fun r I' A' hq => ?_)
        obtain ⟨rfl, rfl, rfl⟩ := hq
        refine V.st (st' := [.int (mz_taking (A m_ops) (A m_first) (A m_second) (A m_third) m)]) rfl ?_
        refine V.iload (j := 5) rfl dX8_flow_131 ?_
        refine V.iconst (v := (-1)) (by decide) dX8_flow_133 ?_
        have K5 : V G MX8_flow (am_R 2 47 0 0) Fn 0 0 151 [(0, .ref mM), (1, .int mo), (2, .int (nI m)), (3, .int (A m_ops m)), (4, .int (mz_out ns (A m_ops) (A m_first) (A m_third) f m)), (5, .int (mz_anew (A m_ops) (A m_first) m))] [.int (if mz_anew (A m_ops) (A m_first) m = (-1) then mz_out ns (A m_ops) (A m_first) (A m_third) f m else mz_out ns (A m_ops) (A m_first) (A m_third) f m &&& ((nI 1 <<< (mz_anew (A m_ops) (A m_first) m &&& 31)) ^^^ (-1))), .int (mz_taking (A m_ops) (A m_first) (A m_second) (A m_third) m)] (hp I (upA (upA A m_before (f)) m_behind (g))) := by
          refine V.ior dX8_flow_151 ?_
          refine V.istore (ls' := [(0, .ref mM), (1, .int mo), (2, .int (nI m)), (3, .int (A m_ops m)), (4, .int (mz_out ns (A m_ops) (A m_first) (A m_third) f m)), (5, .int (mz_anew (A m_ops) (A m_first) m)), (6, .int ((mz_taking (A m_ops) (A m_first) (A m_second) (A m_third) m) ||| (if mz_anew (A m_ops) (A m_first) m = (-1) then mz_out ns (A m_ops) (A m_first) (A m_third) f m else mz_out ns (A m_ops) (A m_first) (A m_third) f m &&& ((nI 1 <<< (mz_anew (A m_ops) (A m_first) m &&& 31)) ^^^ (-1)))))]) dX8_flow_152 (by decide) rfl ?_
          refine V.lse (ls' := [(0, .ref mM), (1, .int mo), (2, .int (nI m)), (3, .int (A m_ops m)), (4, .int (mz_out ns (A m_ops) (A m_first) (A m_third) f m)), (5, .int (mz_anew (A m_ops) (A m_first) m)), (6, .int (mz_inn ns (A m_ops) (A m_first) (A m_second) (A m_third) f m))]) rfl ?_
          refine V.iload_n (j := 1) rfl dX8_flow_154 ?_
          have K6 : V G MX8_flow (am_R 2 47 0 0) Fn 0 0 185 [(0, .ref mM), (1, .int mo), (2, .int (nI m)), (3, .int (A m_ops m)), (4, .int (mz_out ns (A m_ops) (A m_first) (A m_third) f m)), (5, .int (mz_anew (A m_ops) (A m_first) m)), (6, .int (mz_inn ns (A m_ops) (A m_first) (A m_second) (A m_third) f m))] [.int (mz_mor ns (A m_ops) (A m_first) (A m_second) (A m_third) f g mo m)] (hp I (upA (upA A m_before (f)) m_behind (g))) := by
            refine V.istore_n (ls' := [(0, .ref mM), (1, .int (mz_mor ns (A m_ops) (A m_first) (A m_second) (A m_third) f g mo m)), (2, .int (nI m)), (3, .int (A m_ops m)), (4, .int (mz_out ns (A m_ops) (A m_first) (A m_third) f m)), (5, .int (mz_anew (A m_ops) (A m_first) m)), (6, .int (mz_inn ns (A m_ops) (A m_first) (A m_second) (A m_third) f m))]) dX8_flow_185 (by decide) rfl ?_
            refine V.aload_n (j := 0) rfl dX8_flow_186 ?_
            refine V.getr (q := m_before) dX8_flow_187 fX8_31 rfl rfl ?_
            refine V.iload_n (j := 2) rfl dX8_flow_190 ?_
            refine V.iload (j := 6) rfl dX8_flow_191 ?_
            refine V.sta (g := upd f m (mz_inn ns (A m_ops) (A m_first) (A m_second) (A m_third) f m)) dX8_flow_193 rfl (by omega) (by decide) rfl ?_
            refine V.hpe (A' := (upA (upA A m_before (upd f m (mz_inn ns (A m_ops) (A m_first) (A m_second) (A m_third) f m))) m_behind (g))) rfl (upA_r2 (by decide)) ?_
            refine V.aload_n (j := 0) rfl dX8_flow_194 ?_
            refine V.getr (q := m_behind) dX8_flow_195 fX8_34 rfl rfl ?_
            refine V.iload_n (j := 2) rfl dX8_flow_198 ?_
            refine V.iload (j := 4) rfl dX8_flow_199 ?_
            refine V.sta (g := upd g m (mz_out ns (A m_ops) (A m_first) (A m_third) f m)) dX8_flow_201 rfl (by omega) (by decide) rfl ?_
            refine V.hpe (A' := (upA (upA A m_before (upd f m (mz_inn ns (A m_ops) (A m_first) (A m_second) (A m_third) f m))) m_behind (upd g m (mz_out ns (A m_ops) (A m_first) (A m_third) f m)))) rfl upA_u ?_
            refine V.iinc (v := mz_pre m) (ls' := [(0, .ref mM), (1, .int (mz_mor ns (A m_ops) (A m_first) (A m_second) (A m_third) f g mo m)), (2, .int (mz_pre m)), (3, .int (A m_ops m)), (4, .int (mz_out ns (A m_ops) (A m_first) (A m_third) f m)), (5, .int (mz_anew (A m_ops) (A m_first) m)), (6, .int (mz_inn ns (A m_ops) (A m_first) (A m_second) (A m_third) f m))]) dX8_flow_202 (j := 2) rfl (mz_pre_dec m) (by decide) rfl ?_
            refine V.goto (tgt := 45) dX8_flow_205 (by decide) ?_
            refine V.fewer [0, 1, 2] rfl ?_
            exact ih _ _ _ (by omega) hk
          refine V.if_ne (tgt := 180) dX8_flow_155 (by decide) (fun c7 => ?_) (fun c7 => ?_)
          · refine V.iconst (v := nI 1) (by decide) dX8_flow_180 ?_
            refine V.goto (tgt := 185) dX8_flow_181 (by decide) ?_
            exact V.st (by unfold mz_mor; (repeat' split) <;> first | rfl | contradiction | simp_all) K6
          · refine V.iload (j := 6) rfl dX8_flow_158 ?_
            refine V.aload_n (j := 0) rfl dX8_flow_160 ?_
            refine V.getr (q := m_before) dX8_flow_161 fX8_31 rfl rfl ?_
            refine V.iload_n (j := 2) rfl dX8_flow_164 ?_
            refine V.lda (v := f m) dX8_flow_165 rfl (by omega) (by decide) rfl ?_
            refine V.icmp_ne (tgt := 180) dX8_flow_166 (by decide) (fun c8 => ?_) (fun c8 => ?_)
            · refine V.iconst (v := nI 1) (by decide) dX8_flow_180 ?_
              refine V.goto (tgt := 185) dX8_flow_181 (by decide) ?_
              exact V.st (by unfold mz_mor; (repeat' split) <;> first | rfl | contradiction | simp_all) K6
            · refine V.iload (j := 4) rfl dX8_flow_169 ?_
              refine V.aload_n (j := 0) rfl dX8_flow_171 ?_
              refine V.getr (q := m_behind) dX8_flow_172 fX8_34 rfl rfl ?_
              refine V.iload_n (j := 2) rfl dX8_flow_175 ?_
              refine V.lda (v := g m) dX8_flow_176 rfl (by omega) (by decide) rfl ?_
              refine V.icmp_eq (tgt := 184) dX8_flow_177 (by decide) (fun c9 => ?_) (fun c9 => ?_)
              · refine V.iconst (v := nI 0) (by decide) dX8_flow_184 ?_
                exact V.st (by unfold mz_mor; (repeat' split) <;> first | rfl | contradiction | simp_all) K6
              · refine V.iconst (v := nI 1) (by decide) dX8_flow_180 ?_
                refine V.goto (tgt := 185) dX8_flow_181 (by decide) ?_
                exact V.st (by unfold mz_mor; (repeat' split) <;> first | rfl | contradiction | simp_all) K6
        refine V.icmp_ne (tgt := 142) dX8_flow_134 (by decide) (fun c10 => ?_) (fun c10 => ?_)
        · refine V.iload (j := 4) rfl dX8_flow_142 ?_
          refine V.iconst (v := nI 1) (by decide) dX8_flow_144 ?_
          refine V.iload (j := 5) rfl dX8_flow_145 ?_
          refine V.ishl dX8_flow_147 ?_
          refine V.iconst (v := (-1)) (by decide) dX8_flow_148 ?_
          refine V.ixor dX8_flow_149 ?_
          refine V.iand dX8_flow_150 ?_
          exact V.st (by (repeat' split) <;> first | rfl | contradiction | simp_all) K5
        · refine V.iload (j := 4) rfl dX8_flow_137 ?_
          refine V.goto (tgt := 151) dX8_flow_139 (by decide) ?_
          exact V.st (by (repeat' split) <;> first | rfl | contradiction | simp_all) K5
      refine V.icmp_ne (tgt := 115) dX8_flow_99 (by decide) (fun c11 => ?_) (fun c11 => ?_)
      · refine V.iconst (v := nI 0) (by decide) dX8_flow_115 ?_
        exact V.st (by (repeat' split) <;> first | rfl | contradiction | simp_all) K4
      · refine V.aload_n (j := 0) rfl dX8_flow_102 ?_
        refine V.aload_n (j := 0) rfl dX8_flow_103 ?_
        refine V.getr (q := m_third) dX8_flow_104 fX8_22 rfl rfl ?_
        refine V.iload_n (j := 2) rfl dX8_flow_107 ?_
        refine V.lda (v := A m_third m) dX8_flow_108 rfl (by omega) (by decide) rfl ?_
        refine V.cV (As := [.int (A m_third m)]) (st := [.int (if A m_ops m = nI 8 then mz_at ns f (A m_first m) else if A m_ops m = nI 10 then nI 0 else mz_at ns f (nI (m + 1)))]) dX8_flow_109 sX8_102 iX8_liveAt lX8_liveAt rfl rfl (md_liveAt I (upA (upA A m_before (f)) m_behind (g)) ns hs hns _ (h7 _ (by omega) (by assumption))) ⟨by decide, by decide⟩ (Nat.le_of_ble_eq_true rfl) rfl (fun r I' A' hq => ?_)
        obtain ⟨rfl, rfl, rfl⟩ := hq
        refine V.st (st' := [.int (mz_at ns f (A m_third m)), .int (if A m_ops m = nI 8 then mz_at ns f (A m_first m) else if A m_ops m = nI 10 then nI 0 else mz_at ns f (nI (m + 1)))]) rfl ?_
        refine V.goto (tgt := 116) dX8_flow_112 (by decide) ?_
        exact V.st (by (repeat' split) <;> first | rfl | contradiction | simp_all) K4
    refine V.icmp_ne (tgt := 75) dX8_flow_59 (by decide) (fun c12 => ?_) (fun c12 => ?_)
    · refine V.iload_n (j := 3) rfl dX8_flow_75 ?_
      refine V.bipush (v := nI 10) (by decide) dX8_flow_76 ?_
      refine V.icmp_ne (tgt := 85) dX8_flow_78 (by decide) (fun c13 => ?_) (fun c13 => ?_)
      · refine V.aload_n (j := 0) rfl dX8_flow_85 ?_
        refine V.iload_n (j := 2) rfl dX8_flow_86 ?_
        refine V.iconst (v := nI 1) (by decide) dX8_flow_87 ?_
        refine V.iaddN dX8_flow_88 ?_
        refine V.cV (As := [.int (nI (m + 1))]) (st := []) dX8_flow_89 sX8_102 iX8_liveAt lX8_liveAt rfl rfl (md_liveAt I (upA (upA A m_before (f)) m_behind (g)) ns hs hns _ (nI_pos (by omega))) ⟨by decide, by decide⟩ (Nat.le_of_ble_eq_true rfl) rfl (fun r I' A' hq => ?_)
        obtain ⟨rfl, rfl, rfl⟩ := hq
        refine V.st (st' := [.int (mz_at ns f (nI (m + 1)))]) rfl ?_
        exact V.st (by (repeat' split) <;> first | rfl | contradiction | simp_all) K3
      · refine V.iconst (v := nI 0) (by decide) dX8_flow_81 ?_
        refine V.goto (tgt := 92) dX8_flow_82 (by decide) ?_
        exact V.st (by (repeat' split) <;> first | rfl | contradiction | simp_all) K3
    · refine V.aload_n (j := 0) rfl dX8_flow_62 ?_
      refine V.aload_n (j := 0) rfl dX8_flow_63 ?_
      refine V.getr (q := m_first) dX8_flow_64 fX8_16 rfl rfl ?_
      refine V.iload_n (j := 2) rfl dX8_flow_67 ?_
      refine V.lda (v := A m_first m) dX8_flow_68 rfl (by omega) (by decide) rfl ?_
      refine V.cV (As := [.int (A m_first m)]) (st := []) dX8_flow_69 sX8_102 iX8_liveAt lX8_liveAt rfl rfl (md_liveAt I (upA (upA A m_before (f)) m_behind (g)) ns hs hns _ (h8 _ (by omega) (by assumption))) ⟨by decide, by decide⟩ (Nat.le_of_ble_eq_true rfl) rfl (fun r I' A' hq => ?_)
      obtain ⟨rfl, rfl, rfl⟩ := hq
      refine V.st (st' := [.int (mz_at ns f (A m_first m))]) rfl ?_
      refine V.goto (tgt := 92) dX8_flow_72 (by decide) ?_
      exact V.st (by (repeat' split) <;> first | rfl | contradiction | simp_all) K3
set_option maxRecDepth 100000 in
set_option maxHeartbeats 4000000 in
theorem ml_flow3 {G : am_G} {Fn : Array Value → State → List Frame → State → Prop} (I A : Nat → Nat → Int32) (ns : Nat) (hs : I mM 2 = nI ns) (hns : ns ≤ 60) (h8 : ∀ s, s < ns → A m_ops s = nI 8 → ¬ A m_first s < 0) (h7 : ∀ s, s < ns → A m_ops s = nI 7 → ¬ A m_third s < 0) (f0 g0 : Nat → Int32) (kf : Nat) (hkf : mz_mo ns (A m_ops) (A m_first) (A m_second) (A m_third) f0 g0 kf = nI 0) (hmin : ∀ j, j < kf → ¬ mz_mo ns (A m_ops) (A m_first) (A m_second) (A m_third) f0 g0 j = nI 0) : ∀ (m j : Nat) (mo : Int32), ¬ mo = 0 → j + m = kf → V G MX8_flow (am_R 2 47 0 0) Fn 0 0 211 [(0, .ref mM)] [] (hp I (upA (upA A m_before (mz_it ns (A m_ops) (A m_first) (A m_second) (A m_third) f0 g0 (kf + 1)).1) m_behind (mz_it ns (A m_ops) (A m_first) (A m_second) (A m_third) f0 g0 (kf + 1)).2)) → V G MX8_flow (am_R 2 47 0 0) Fn 0 0 32 [(0, .ref mM), (1, .int mo)] [] (hp I (upA (upA A m_before (mz_it ns (A m_ops) (A m_first) (A m_second) (A m_third) f0 g0 j).1) m_behind (mz_it ns (A m_ops) (A m_first) (A m_second) (A m_third) f0 g0 j).2)) := by
  intro m
  induction m with
  | zero =>
    intro j mo hmo hj hk
    refine V.iload_n (j := 1) rfl dX8_flow_32 ?_
    refine V.if_eq (tgt := 211) dX8_flow_33 (by decide) (fun c => absurd c hmo) (fun c => ?_)
    refine V.iconst (v := nI 0) (by decide) dX8_flow_36 ?_
    refine V.istore_n (ls' := [(0, .ref mM), (1, .int (nI 0))]) dX8_flow_37 (by decide) rfl ?_
    refine V.aload_n (j := 0) rfl dX8_flow_38 ?_
    refine V.geti (v := nI ns) dX8_flow_39 fX8_95 rfl rfl hs ?_
    refine V.iconst (v := nI 1) (by decide) dX8_flow_42 ?_
    refine V.isub dX8_flow_43 ?_
    refine V.st (st' := [.int (mz_pre ns)]) (by rw [mz_pre_sub]) ?_
    refine V.istore_n (ls' := [(0, .ref mM), (1, .int (nI 0)), (2, .int (mz_pre ns))]) dX8_flow_44 (by decide) rfl ?_
    refine ml_flow2 I A ns hs hns h8 h7 ns _ _ _ (Nat.le_refl _) ?_
    refine V.goto (tgt := 32) dX8_flow_208 (by decide) ?_
    obtain rfl : kf = j := by omega
    refine V.iload_n (j := 1) rfl dX8_flow_32 ?_
    refine V.if_eq (tgt := 211) dX8_flow_33 (by decide) (fun c => ?_) (fun c => absurd hkf c)
    refine V.fewer [0] rfl ?_
    exact hk
  | succ m ih =>
    intro j mo hmo hj hk
    refine V.iload_n (j := 1) rfl dX8_flow_32 ?_
    refine V.if_eq (tgt := 211) dX8_flow_33 (by decide) (fun c => absurd c hmo) (fun c => ?_)
    refine V.iconst (v := nI 0) (by decide) dX8_flow_36 ?_
    refine V.istore_n (ls' := [(0, .ref mM), (1, .int (nI 0))]) dX8_flow_37 (by decide) rfl ?_
    refine V.aload_n (j := 0) rfl dX8_flow_38 ?_
    refine V.geti (v := nI ns) dX8_flow_39 fX8_95 rfl rfl hs ?_
    refine V.iconst (v := nI 1) (by decide) dX8_flow_42 ?_
    refine V.isub dX8_flow_43 ?_
    refine V.st (st' := [.int (mz_pre ns)]) (by rw [mz_pre_sub]) ?_
    refine V.istore_n (ls' := [(0, .ref mM), (1, .int (nI 0)), (2, .int (mz_pre ns))]) dX8_flow_44 (by decide) rfl ?_
    refine ml_flow2 I A ns hs hns h8 h7 ns _ _ _ (Nat.le_refl _) ?_
    refine V.goto (tgt := 32) dX8_flow_208 (by decide) ?_
    exact ih (j + 1) _ (hmin j (by omega)) (by omega) hk
set_option maxRecDepth 100000 in
set_option maxHeartbeats 4000000 in
theorem md_flow {G : am_G} (I A : Nat → Nat → Int32) (ns : Nat) (hs : I mM 2 = nI ns) (hns : ns ≤ 60) (h8 : ∀ s, s < ns → A m_ops s = nI 8 → ¬ A m_first s < 0) (h7 : ∀ s, s < ns → A m_ops s = nI 7 → ¬ A m_third s < 0) (hT : ∃ k, mz_mo ns (A m_ops) (A m_first) (A m_second) (A m_third) (mz_fill ns 0 (A m_before)) (mz_fill ns 0 (A m_behind)) k = nI 0) : Cm G MX8_flow 2 47 [.ref mM] I A (fun r I' A' => r = none ∧ I = I' ∧ ∃ k, mz_mo ns (A m_ops) (A m_first) (A m_second) (A m_third) (mz_fill ns 0 (A m_before)) (mz_fill ns 0 (A m_behind)) k = nI 0 ∧ upA (upA A m_before (mz_it ns (A m_ops) (A m_first) (A m_second) (A m_third) (mz_fill ns 0 (A m_before)) (mz_fill ns 0 (A m_behind)) (k + 1)).1) m_behind (mz_it ns (A m_ops) (A m_first) (A m_second) (A m_third) (mz_fill ns 0 (A m_before)) (mz_fill ns 0 (A m_behind)) (k + 1)).2 = A') := by
  refine Cm.of (by decide) (Nat.le_of_ble_eq_true rfl) rfl ?_
  show V G MX8_flow (am_R 2 47 0 0) _ 0 0 0 [(0, .ref mM)] [] (hp I A)
  obtain ⟨kf, hkf, hmin⟩ := pk_least _ hT
  refine V.iconst (v := nI 0) (by decide) dX8_flow_0 ?_
  refine V.istore_n (ls' := [(0, .ref mM), (1, .int (nI 0))]) dX8_flow_1 (by decide) rfl ?_
  refine V.hpe (A' := (upA (upA A m_before (A m_before)) m_behind (A m_behind))) rfl (by rw [upA_i, upA_i]) ?_
  refine ml_flow1 I A ns hs hns ns 0 _ _ (by omega) ?_
  refine V.iconst (v := nI 1) (by decide) dX8_flow_30 ?_
  refine V.istore_n (ls' := [(0, .ref mM), (1, .int (nI 1))]) dX8_flow_31 (by decide) rfl ?_
  refine ml_flow3 I A ns hs hns h8 h7 _ _ kf hkf hmin kf 0 _ (by decide) (by omega) ?_
  refine V.rv dX8_flow_211 rfl ?_
  exact ⟨rfl, rfl, kf, hkf, rfl⟩
