/-! THE LAW'S BODY -/
/-- the law: whatever its name -/
abbrev ML (nm : String) : am_Y := (⟨RL, nm, "([I)Z"⟩, cL_law, 4, ret)
/-- the law's end, where its cells begin behind all that was there -/
def lwF (G : am_G) : Array Value → State → List Frame → State → Prop := fun args s below t => s.heap.size = gB G → lw_Z below args s t
theorem lw_retA {p : Program} {l : Launch} {e : Env} {s : State} {m : MethodId} {args : Array Value} {below : List Frame} {meth : Method} {c : Code} (hx : p.tables.exec = Jvm.exec) (hb : c.code = code) (hr : meth.sig.returnType = ret) (hlocks : meth.locks = false) {pc : Nat} {H : Heap} {ls : Array Slot} (hdg : decode code pc = .ok (.ireturn, 1)) : W p l e room_1 s m args below meth c H [] 600000 7302250 (lw_Z below args s) (F0 m pc ls [.int 1]) := by
  intro T hT X
  obtain ⟨fs, hret, hrun, hended, hW, hframe⟩ := X.leave (v := some (.int 1)) (hlocks := hlocks) (fun h => by rw [hr] at h; cases h)
  have hmeth' : T.vm.method? m = some meth := X.method'
  refine ⟨T.setFrames fs, ?_, .returned (some (.int 1)), hrun, hended, rfl, ⟨_, rfl⟩, hW, hframe⟩
  jvm_step X.here [X.here.top, hx, hb, hdg, hmeth', hr, ret, narrow_b1]
  (try refine ⟨rfl, ?_⟩); (try refine ⟨rfl, ?_⟩)
  first | (intro acts; rw [hret _ acts rfl rfl rfl]) | rw [hret _ _ rfl rfl rfl]
  exact Steps.refl _
theorem V.lawEnd {G : am_G} {nm : String} {k n pc : Nat} {ls : List (Nat × Value)} {h : List va_E} (hd : decode code pc = .ok (.ireturn, 1)) : V G (ML nm) room_1 (lwF G) k n pc ls [.int 1] h := by
  intro p l e s m args below meth c H locs cells slots lsr X w S hl hc hn
  by_cases q : s.heap.size = gB G
  · have K : W p l e room_1 s m args below meth c H locs cells slots (lw_Z below args s) (F0 m pc lsr [.int 1]) := by
      refine va_forget (fun z hz => ?_) ?_
      · have := S.2.2 z hz
        rw [q]; exact this
      · exact W.widen (k := 600000) (n := 7302250) (Nat.le_trans (Nat.le_add_right _ _) hc) (Nat.le_trans (Nat.le_add_right _ _) hn) (lw_retA X.exec X.bytes X.returns X.locks hd)
    intro T hT X0
    obtain ⟨t, h1, h2⟩ := K T hT X0
    exact ⟨t, h1, fun _ => h2⟩
  · intro T hT X0
    exact ⟨_, Steps.refl _, fun z => absurd z q⟩
theorem lw_bound {L i : Nat} (hL : L ≤ 2560) (hi : i < 2 ^ 31) (h : ¬ nI L - nI 5 < nI i) : i + 5 ≤ L := by
  by_cases q : 5 ≤ L
  · rw [pk_sub q, nI_ltI (by omega) hi] at h
    omega
  · refine absurd ?_ h
    have h0 : nI L - nI 5 < 0 := by
      rcases (by omega : L = 0 ∨ L = 1 ∨ L = 2 ∨ L = 3 ∨ L = 4) with e | e | e | e | e <;> subst e <;> decide
    exact Int32.lt_of_lt_of_le h0 (nI_pos' hi)
theorem lw_out {x : Int32} (h : ∀ k, k ≤ 16 → ¬ x = nI k) : x.toInt < 0 ∨ 16 < x.toInt := by
  by_cases q : x < 0
  · exact Or.inl (by have := Int32.lt_iff_toInt_lt.mp q; exact this)
  · obtain ⟨j, hj, rfl⟩ := nI_of q
    have h5 : ¬ j ≤ 16 := fun z => h j z rfl
    rw [nI_toInt hj]
    omega
set_option maxRecDepth 100000 in
set_option maxHeartbeats 4000000 in
theorem lw_c0 {G : am_G} {nm : String} {k n : Nat} (hst : am_sta G) (I A : Nat → Nat → Int32) (hInv : cz_Inv I A) (L i : Nat) (hL : (gL G 2).2.1 = L) (hL2 : L ≤ 2560) (hi : i + 5 ≤ L) (hk : ∀ I2 A2, cz_Inv I2 A2 → V G (ML nm) room_1 (lwF G) k n 567 [(0, .retAddr 2), (1, .ref 0), (2, .ref mM), (3, .int (nI i))] [] (hp I2 A2)) : V G (ML nm) room_1 (lwF G) k n 116 [(0, .retAddr 2), (1, .ref 0), (2, .ref mM), (3, .int (nI i))] [] (hp I A) := by
  subst hL
  obtain ⟨Q7, C7, H7⟩ := pq_value (G := G) ((gL G 2).2.2 (i + 1)) I A hInv
  refine V.aload_n (j := 1) rfl dL_law_116 ?_
  refine V.aload_nL (j := 0) rfl dL_law_117 ?_
  refine V.iload_n (j := 3) rfl dL_law_118 ?_
  refine V.iconst (v := nI 1) (by decide) dL_law_119 ?_
  refine V.iaddN dL_law_120 ?_
  refine V.ildL (v := (gL G 2).2.2 (i + 1)) dL_law_121 (by decide) (vp_in_nI (by omega) (by omega)) (by rw [nI_clamp (by omega)]) ?_
  refine V.cV (As := [.int ((gL G 2).2.2 (i + 1))]) (st := []) dL_law_122 sL_13 iX7_value lX7_value rfl rfl C7 ⟨by decide, by decide⟩ (Nat.le_of_ble_eq_true rfl) rfl (fun r I1 A1 hq => ?_)
  obtain ⟨x, rfl, Q8, C8, H8⟩ := H7 r I1 A1 hq
  refine V.st (st' := [.int x]) rfl ?_
  refine V.aload_n (j := 2) rfl dL_law_125 ?_
  refine V.aload_nL (j := 0) rfl dL_law_126 ?_
  refine V.iload_n (j := 3) rfl dL_law_127 ?_
  refine V.iconst (v := nI 1) (by decide) dL_law_128 ?_
  refine V.iaddN dL_law_129 ?_
  refine V.ildL (v := (gL G 2).2.2 (i + 1)) dL_law_130 (by decide) (vp_in_nI (by omega) (by omega)) (by rw [nI_clamp (by omega)]) ?_
  refine V.cV (As := [.int ((gL G 2).2.2 (i + 1))]) (st := [.int x]) dL_law_131 sL_17 iX8_value lX8_value rfl rfl C8 ⟨by decide, by decide⟩ (Nat.le_of_ble_eq_true rfl) rfl (fun r I2 A2 hq2 => ?_)
  obtain ⟨rfl, hInv2⟩ := H8 r I2 A2 hq2
  refine V.st (st' := [.int x, .int x]) rfl ?_
  exact V.icmp_eq (tgt := 567) dL_law_134 (by decide) (fun _ => hk I2 A2 hInv2) (fun z => absurd rfl z)
set_option maxRecDepth 100000 in
set_option maxHeartbeats 4000000 in
theorem lw_c1 {G : am_G} {nm : String} {k n : Nat} (hst : am_sta G) (I A : Nat → Nat → Int32) (hInv : cz_Inv I A) (L i : Nat) (hL : (gL G 2).2.1 = L) (hL2 : L ≤ 2560) (hi : i + 5 ≤ L) (hk : ∀ I2 A2, cz_Inv I2 A2 → V G (ML nm) room_1 (lwF G) k n 567 [(0, .retAddr 2), (1, .ref 0), (2, .ref mM), (3, .int (nI i))] [] (hp I2 A2)) : V G (ML nm) room_1 (lwF G) k n 139 [(0, .retAddr 2), (1, .ref 0), (2, .ref mM), (3, .int (nI i))] [] (hp I A) := by
  subst hL
  obtain ⟨Q7, C7, H7⟩ := pq_put (G := G) hst ((gL G 2).2.2 (i + 1)) ((gL G 2).2.2 (i + 2)) ((gL G 2).2.2 (i + 3)) ((gL G 2).2.2 (i + 4)) I A hInv
  refine V.aload_n (j := 1) rfl dL_law_139 ?_
  refine V.aload_nL (j := 0) rfl dL_law_140 ?_
  refine V.iload_n (j := 3) rfl dL_law_141 ?_
  refine V.iconst (v := nI 1) (by decide) dL_law_142 ?_
  refine V.iaddN dL_law_143 ?_
  refine V.ildL (v := (gL G 2).2.2 (i + 1)) dL_law_144 (by decide) (vp_in_nI (by omega) (by omega)) (by rw [nI_clamp (by omega)]) ?_
  refine V.aload_nL (j := 0) rfl dL_law_145 ?_
  refine V.iload_n (j := 3) rfl dL_law_146 ?_
  refine V.iconst (v := nI 2) (by decide) dL_law_147 ?_
  refine V.iaddN dL_law_148 ?_
  refine V.ildL (v := (gL G 2).2.2 (i + 2)) dL_law_149 (by decide) (vp_in_nI (by omega) (by omega)) (by rw [nI_clamp (by omega)]) ?_
  refine V.aload_nL (j := 0) rfl dL_law_150 ?_
  refine V.iload_n (j := 3) rfl dL_law_151 ?_
  refine V.iconst (v := nI 3) (by decide) dL_law_152 ?_
  refine V.iaddN dL_law_153 ?_
  refine V.ildL (v := (gL G 2).2.2 (i + 3)) dL_law_154 (by decide) (vp_in_nI (by omega) (by omega)) (by rw [nI_clamp (by omega)]) ?_
  refine V.aload_nL (j := 0) rfl dL_law_155 ?_
  refine V.iload_n (j := 3) rfl dL_law_156 ?_
  refine V.iconst (v := nI 4) (by decide) dL_law_157 ?_
  refine V.iaddN dL_law_158 ?_
  refine V.ildL (v := (gL G 2).2.2 (i + 4)) dL_law_159 (by decide) (vp_in_nI (by omega) (by omega)) (by rw [nI_clamp (by omega)]) ?_
  refine V.cV (As := [.int ((gL G 2).2.2 (i + 1)), .int ((gL G 2).2.2 (i + 2)), .int ((gL G 2).2.2 (i + 3)), .int ((gL G 2).2.2 (i + 4))]) (st := []) dL_law_160 sL_18 iX7_put lX7_put rfl rfl C7 ⟨by decide, by decide⟩ (Nat.le_of_ble_eq_true rfl) rfl (fun r I1 A1 hq => ?_)
  obtain ⟨x, rfl, Q8, C8, H8⟩ := H7 r I1 A1 hq
  refine V.st (st' := [.int x]) rfl ?_
  refine V.aload_n (j := 2) rfl dL_law_163 ?_
  refine V.aload_nL (j := 0) rfl dL_law_164 ?_
  refine V.iload_n (j := 3) rfl dL_law_165 ?_
  refine V.iconst (v := nI 1) (by decide) dL_law_166 ?_
  refine V.iaddN dL_law_167 ?_
  refine V.ildL (v := (gL G 2).2.2 (i + 1)) dL_law_168 (by decide) (vp_in_nI (by omega) (by omega)) (by rw [nI_clamp (by omega)]) ?_
  refine V.aload_nL (j := 0) rfl dL_law_169 ?_
  refine V.iload_n (j := 3) rfl dL_law_170 ?_
  refine V.iconst (v := nI 2) (by decide) dL_law_171 ?_
  refine V.iaddN dL_law_172 ?_
  refine V.ildL (v := (gL G 2).2.2 (i + 2)) dL_law_173 (by decide) (vp_in_nI (by omega) (by omega)) (by rw [nI_clamp (by omega)]) ?_
  refine V.aload_nL (j := 0) rfl dL_law_174 ?_
  refine V.iload_n (j := 3) rfl dL_law_175 ?_
  refine V.iconst (v := nI 3) (by decide) dL_law_176 ?_
  refine V.iaddN dL_law_177 ?_
  refine V.ildL (v := (gL G 2).2.2 (i + 3)) dL_law_178 (by decide) (vp_in_nI (by omega) (by omega)) (by rw [nI_clamp (by omega)]) ?_
  refine V.aload_nL (j := 0) rfl dL_law_179 ?_
  refine V.iload_n (j := 3) rfl dL_law_180 ?_
  refine V.iconst (v := nI 4) (by decide) dL_law_181 ?_
  refine V.iaddN dL_law_182 ?_
  refine V.ildL (v := (gL G 2).2.2 (i + 4)) dL_law_183 (by decide) (vp_in_nI (by omega) (by omega)) (by rw [nI_clamp (by omega)]) ?_
  refine V.cV (As := [.int ((gL G 2).2.2 (i + 1)), .int ((gL G 2).2.2 (i + 2)), .int ((gL G 2).2.2 (i + 3)), .int ((gL G 2).2.2 (i + 4))]) (st := [.int x]) dL_law_184 sL_22 iX8_put lX8_put rfl rfl C8 ⟨by decide, by decide⟩ (Nat.le_of_ble_eq_true rfl) rfl (fun r I2 A2 hq2 => ?_)
  obtain ⟨rfl, hInv2⟩ := H8 r I2 A2 hq2
  refine V.st (st' := [.int x, .int x]) rfl ?_
  exact V.icmp_eq (tgt := 567) dL_law_187 (by decide) (fun _ => hk I2 A2 hInv2) (fun z => absurd rfl z)
set_option maxRecDepth 100000 in
set_option maxHeartbeats 4000000 in
theorem lw_c2 {G : am_G} {nm : String} {k n : Nat} (hst : am_sta G) (I A : Nat → Nat → Int32) (hInv : cz_Inv I A) (L i : Nat) (hL : (gL G 2).2.1 = L) (hL2 : L ≤ 2560) (hi : i + 5 ≤ L) (hk : ∀ I2 A2, cz_Inv I2 A2 → V G (ML nm) room_1 (lwF G) k n 567 [(0, .retAddr 2), (1, .ref 0), (2, .ref mM), (3, .int (nI i))] [] (hp I2 A2)) : V G (ML nm) room_1 (lwF G) k n 192 [(0, .retAddr 2), (1, .ref 0), (2, .ref mM), (3, .int (nI i))] [] (hp I A) := by
  subst hL
  obtain ⟨Q7, C7, H7⟩ := pq_clear (G := G)  I A hInv
  refine V.aload_n (j := 1) rfl dL_law_192 ?_
  refine V.cV (As := []) (st := []) dL_law_193 sL_23 iX7_clear lX7_clear rfl rfl C7 ⟨by decide, by decide⟩ (Nat.le_of_ble_eq_true rfl) rfl (fun r I1 A1 hq => ?_)
  obtain ⟨x, rfl, Q8, C8, H8⟩ := H7 r I1 A1 hq
  refine V.st (st' := [.int x]) rfl ?_
  refine V.aload_n (j := 2) rfl dL_law_196 ?_
  refine V.cV (As := []) (st := [.int x]) dL_law_197 sL_27 iX8_clear lX8_clear rfl rfl C8 ⟨by decide, by decide⟩ (Nat.le_of_ble_eq_true rfl) rfl (fun r I2 A2 hq2 => ?_)
  obtain ⟨rfl, hInv2⟩ := H8 r I2 A2 hq2
  refine V.st (st' := [.int x, .int x]) rfl ?_
  exact V.icmp_eq (tgt := 567) dL_law_200 (by decide) (fun _ => hk I2 A2 hInv2) (fun z => absurd rfl z)
set_option maxRecDepth 100000 in
set_option maxHeartbeats 4000000 in
theorem lw_c3 {G : am_G} {nm : String} {k n : Nat} (hst : am_sta G) (I A : Nat → Nat → Int32) (hInv : cz_Inv I A) (L i : Nat) (hL : (gL G 2).2.1 = L) (hL2 : L ≤ 2560) (hi : i + 5 ≤ L) (hk : ∀ I2 A2, cz_Inv I2 A2 → V G (ML nm) room_1 (lwF G) k n 567 [(0, .retAddr 2), (1, .ref 0), (2, .ref mM), (3, .int (nI i))] [] (hp I2 A2)) : V G (ML nm) room_1 (lwF G) k n 205 [(0, .retAddr 2), (1, .ref 0), (2, .ref mM), (3, .int (nI i))] [] (hp I A) := by
  subst hL
  obtain ⟨Q7, C7, H7⟩ := pq_registers (G := G) ((gL G 2).2.2 (i + 1)) ((gL G 2).2.2 (i + 2)) I A hInv
  refine V.aload_n (j := 1) rfl dL_law_205 ?_
  refine V.aload_nL (j := 0) rfl dL_law_206 ?_
  refine V.iload_n (j := 3) rfl dL_law_207 ?_
  refine V.iconst (v := nI 1) (by decide) dL_law_208 ?_
  refine V.iaddN dL_law_209 ?_
  refine V.ildL (v := (gL G 2).2.2 (i + 1)) dL_law_210 (by decide) (vp_in_nI (by omega) (by omega)) (by rw [nI_clamp (by omega)]) ?_
  refine V.aload_nL (j := 0) rfl dL_law_211 ?_
  refine V.iload_n (j := 3) rfl dL_law_212 ?_
  refine V.iconst (v := nI 2) (by decide) dL_law_213 ?_
  refine V.iaddN dL_law_214 ?_
  refine V.ildL (v := (gL G 2).2.2 (i + 2)) dL_law_215 (by decide) (vp_in_nI (by omega) (by omega)) (by rw [nI_clamp (by omega)]) ?_
  refine V.cV (As := [.int ((gL G 2).2.2 (i + 1)), .int ((gL G 2).2.2 (i + 2))]) (st := []) dL_law_216 sL_28 iX7_registers lX7_registers rfl rfl C7 ⟨by decide, by decide⟩ (Nat.le_of_ble_eq_true rfl) rfl (fun r I1 A1 hq => ?_)
  obtain ⟨x, rfl, Q8, C8, H8⟩ := H7 r I1 A1 hq
  refine V.st (st' := [.int x]) rfl ?_
  refine V.aload_n (j := 2) rfl dL_law_219 ?_
  refine V.aload_nL (j := 0) rfl dL_law_220 ?_
  refine V.iload_n (j := 3) rfl dL_law_221 ?_
  refine V.iconst (v := nI 1) (by decide) dL_law_222 ?_
  refine V.iaddN dL_law_223 ?_
  refine V.ildL (v := (gL G 2).2.2 (i + 1)) dL_law_224 (by decide) (vp_in_nI (by omega) (by omega)) (by rw [nI_clamp (by omega)]) ?_
  refine V.aload_nL (j := 0) rfl dL_law_225 ?_
  refine V.iload_n (j := 3) rfl dL_law_226 ?_
  refine V.iconst (v := nI 2) (by decide) dL_law_227 ?_
  refine V.iaddN dL_law_228 ?_
  refine V.ildL (v := (gL G 2).2.2 (i + 2)) dL_law_229 (by decide) (vp_in_nI (by omega) (by omega)) (by rw [nI_clamp (by omega)]) ?_
  refine V.cV (As := [.int ((gL G 2).2.2 (i + 1)), .int ((gL G 2).2.2 (i + 2))]) (st := [.int x]) dL_law_230 sL_32 iX8_registers lX8_registers rfl rfl C8 ⟨by decide, by decide⟩ (Nat.le_of_ble_eq_true rfl) rfl (fun r I2 A2 hq2 => ?_)
  obtain ⟨rfl, hInv2⟩ := H8 r I2 A2 hq2
  refine V.st (st' := [.int x, .int x]) rfl ?_
  exact V.icmp_eq (tgt := 567) dL_law_233 (by decide) (fun _ => hk I2 A2 hInv2) (fun z => absurd rfl z)
set_option maxRecDepth 100000 in
set_option maxHeartbeats 4000000 in
theorem lw_c4 {G : am_G} {nm : String} {k n : Nat} (hst : am_sta G) (I A : Nat → Nat → Int32) (hInv : cz_Inv I A) (L i : Nat) (hL : (gL G 2).2.1 = L) (hL2 : L ≤ 2560) (hi : i + 5 ≤ L) (hk : ∀ I2 A2, cz_Inv I2 A2 → V G (ML nm) room_1 (lwF G) k n 567 [(0, .retAddr 2), (1, .ref 0), (2, .ref mM), (3, .int (nI i))] [] (hp I2 A2)) : V G (ML nm) room_1 (lwF G) k n 238 [(0, .retAddr 2), (1, .ref 0), (2, .ref mM), (3, .int (nI i))] [] (hp I A) := by
  subst hL
  obtain ⟨Q7, C7, H7⟩ := pq_memory (G := G) ((gL G 2).2.2 (i + 1)) ((gL G 2).2.2 (i + 2)) I A hInv
  refine V.aload_n (j := 1) rfl dL_law_238 ?_
  refine V.aload_nL (j := 0) rfl dL_law_239 ?_
  refine V.iload_n (j := 3) rfl dL_law_240 ?_
  refine V.iconst (v := nI 1) (by decide) dL_law_241 ?_
  refine V.iaddN dL_law_242 ?_
  refine V.ildL (v := (gL G 2).2.2 (i + 1)) dL_law_243 (by decide) (vp_in_nI (by omega) (by omega)) (by rw [nI_clamp (by omega)]) ?_
  refine V.aload_nL (j := 0) rfl dL_law_244 ?_
  refine V.iload_n (j := 3) rfl dL_law_245 ?_
  refine V.iconst (v := nI 2) (by decide) dL_law_246 ?_
  refine V.iaddN dL_law_247 ?_
  refine V.ildL (v := (gL G 2).2.2 (i + 2)) dL_law_248 (by decide) (vp_in_nI (by omega) (by omega)) (by rw [nI_clamp (by omega)]) ?_
  refine V.cV (As := [.int ((gL G 2).2.2 (i + 1)), .int ((gL G 2).2.2 (i + 2))]) (st := []) dL_law_249 sL_33 iX7_memory lX7_memory rfl rfl C7 ⟨by decide, by decide⟩ (Nat.le_of_ble_eq_true rfl) rfl (fun r I1 A1 hq => ?_)
  obtain ⟨x, rfl, Q8, C8, H8⟩ := H7 r I1 A1 hq
  refine V.st (st' := [.int x]) rfl ?_
  refine V.aload_n (j := 2) rfl dL_law_252 ?_
  refine V.aload_nL (j := 0) rfl dL_law_253 ?_
  refine V.iload_n (j := 3) rfl dL_law_254 ?_
  refine V.iconst (v := nI 1) (by decide) dL_law_255 ?_
  refine V.iaddN dL_law_256 ?_
  refine V.ildL (v := (gL G 2).2.2 (i + 1)) dL_law_257 (by decide) (vp_in_nI (by omega) (by omega)) (by rw [nI_clamp (by omega)]) ?_
  refine V.aload_nL (j := 0) rfl dL_law_258 ?_
  refine V.iload_n (j := 3) rfl dL_law_259 ?_
  refine V.iconst (v := nI 2) (by decide) dL_law_260 ?_
  refine V.iaddN dL_law_261 ?_
  refine V.ildL (v := (gL G 2).2.2 (i + 2)) dL_law_262 (by decide) (vp_in_nI (by omega) (by omega)) (by rw [nI_clamp (by omega)]) ?_
  refine V.cV (As := [.int ((gL G 2).2.2 (i + 1)), .int ((gL G 2).2.2 (i + 2))]) (st := [.int x]) dL_law_263 sL_36 iX8_memory lX8_memory rfl rfl C8 ⟨by decide, by decide⟩ (Nat.le_of_ble_eq_true rfl) rfl (fun r I2 A2 hq2 => ?_)
  obtain ⟨rfl, hInv2⟩ := H8 r I2 A2 hq2
  refine V.st (st' := [.int x, .int x]) rfl ?_
  exact V.icmp_eq (tgt := 567) dL_law_266 (by decide) (fun _ => hk I2 A2 hInv2) (fun z => absurd rfl z)
set_option maxRecDepth 100000 in
set_option maxHeartbeats 4000000 in
theorem lw_c5 {G : am_G} {nm : String} {k n : Nat} (hst : am_sta G) (I A : Nat → Nat → Int32) (hInv : cz_Inv I A) (L i : Nat) (hL : (gL G 2).2.1 = L) (hL2 : L ≤ 2560) (hi : i + 5 ≤ L) (hk : ∀ I2 A2, cz_Inv I2 A2 → V G (ML nm) room_1 (lwF G) k n 567 [(0, .retAddr 2), (1, .ref 0), (2, .ref mM), (3, .int (nI i))] [] (hp I2 A2)) : V G (ML nm) room_1 (lwF G) k n 271 [(0, .retAddr 2), (1, .ref 0), (2, .ref mM), (3, .int (nI i))] [] (hp I A) := by
  subst hL
  obtain ⟨Q7, C7, H7⟩ := pq_live (G := G) hst ((gL G 2).2.2 (i + 1)) I A hInv
  refine V.aload_n (j := 1) rfl dL_law_271 ?_
  refine V.aload_nL (j := 0) rfl dL_law_272 ?_
  refine V.iload_n (j := 3) rfl dL_law_273 ?_
  refine V.iconst (v := nI 1) (by decide) dL_law_274 ?_
  refine V.iaddN dL_law_275 ?_
  refine V.ildL (v := (gL G 2).2.2 (i + 1)) dL_law_276 (by decide) (vp_in_nI (by omega) (by omega)) (by rw [nI_clamp (by omega)]) ?_
  refine V.cV (As := [.int ((gL G 2).2.2 (i + 1))]) (st := []) dL_law_277 sL_37 iX7_live lX7_live rfl rfl C7 ⟨by decide, by decide⟩ (Nat.le_of_ble_eq_true rfl) rfl (fun r I1 A1 hq => ?_)
  obtain ⟨x, rfl, Q8, C8, H8⟩ := H7 r I1 A1 hq
  refine V.st (st' := [.int x]) rfl ?_
  refine V.aload_n (j := 2) rfl dL_law_280 ?_
  refine V.aload_nL (j := 0) rfl dL_law_281 ?_
  refine V.iload_n (j := 3) rfl dL_law_282 ?_
  refine V.iconst (v := nI 1) (by decide) dL_law_283 ?_
  refine V.iaddN dL_law_284 ?_
  refine V.ildL (v := (gL G 2).2.2 (i + 1)) dL_law_285 (by decide) (vp_in_nI (by omega) (by omega)) (by rw [nI_clamp (by omega)]) ?_
  refine V.cV (As := [.int ((gL G 2).2.2 (i + 1))]) (st := [.int x]) dL_law_286 sL_40 iX8_live lX8_live rfl rfl C8 ⟨by decide, by decide⟩ (Nat.le_of_ble_eq_true rfl) rfl (fun r I2 A2 hq2 => ?_)
  obtain ⟨rfl, hInv2⟩ := H8 r I2 A2 hq2
  refine V.st (st' := [.int x, .int x]) rfl ?_
  exact V.icmp_eq (tgt := 567) dL_law_289 (by decide) (fun _ => hk I2 A2 hInv2) (fun z => absurd rfl z)
set_option maxRecDepth 100000 in
set_option maxHeartbeats 4000000 in
theorem lw_c6 {G : am_G} {nm : String} {k n : Nat} (hst : am_sta G) (I A : Nat → Nat → Int32) (hInv : cz_Inv I A) (L i : Nat) (hL : (gL G 2).2.1 = L) (hL2 : L ≤ 2560) (hi : i + 5 ≤ L) (hk : ∀ I2 A2, cz_Inv I2 A2 → V G (ML nm) room_1 (lwF G) k n 567 [(0, .retAddr 2), (1, .ref 0), (2, .ref mM), (3, .int (nI i))] [] (hp I2 A2)) : V G (ML nm) room_1 (lwF G) k n 294 [(0, .retAddr 2), (1, .ref 0), (2, .ref mM), (3, .int (nI i))] [] (hp I A) := by
  subst hL
  obtain ⟨Q7, C7, H7⟩ := pq_inWay (G := G) hst ((gL G 2).2.2 (i + 1)) I A hInv
  refine V.aload_n (j := 1) rfl dL_law_294 ?_
  refine V.aload_nL (j := 0) rfl dL_law_295 ?_
  refine V.iload_n (j := 3) rfl dL_law_296 ?_
  refine V.iconst (v := nI 1) (by decide) dL_law_297 ?_
  refine V.iaddN dL_law_298 ?_
  refine V.ildL (v := (gL G 2).2.2 (i + 1)) dL_law_299 (by decide) (vp_in_nI (by omega) (by omega)) (by rw [nI_clamp (by omega)]) ?_
  refine V.cV (As := [.int ((gL G 2).2.2 (i + 1))]) (st := []) dL_law_300 sL_41 iX7_inWay lX7_inWay rfl rfl C7 ⟨by decide, by decide⟩ (Nat.le_of_ble_eq_true rfl) rfl (fun r I1 A1 hq => ?_)
  obtain ⟨x, rfl, Q8, C8, H8⟩ := H7 r I1 A1 hq
  refine V.st (st' := [.int x]) rfl ?_
  refine V.aload_n (j := 2) rfl dL_law_303 ?_
  refine V.aload_nL (j := 0) rfl dL_law_304 ?_
  refine V.iload_n (j := 3) rfl dL_law_305 ?_
  refine V.iconst (v := nI 1) (by decide) dL_law_306 ?_
  refine V.iaddN dL_law_307 ?_
  refine V.ildL (v := (gL G 2).2.2 (i + 1)) dL_law_308 (by decide) (vp_in_nI (by omega) (by omega)) (by rw [nI_clamp (by omega)]) ?_
  refine V.cV (As := [.int ((gL G 2).2.2 (i + 1))]) (st := [.int x]) dL_law_309 sL_44 iX8_inWay lX8_inWay rfl rfl C8 ⟨by decide, by decide⟩ (Nat.le_of_ble_eq_true rfl) rfl (fun r I2 A2 hq2 => ?_)
  obtain ⟨rfl, hInv2⟩ := H8 r I2 A2 hq2
  refine V.st (st' := [.int x, .int x]) rfl ?_
  exact V.icmp_eq (tgt := 567) dL_law_312 (by decide) (fun _ => hk I2 A2 hInv2) (fun z => absurd rfl z)
set_option maxRecDepth 100000 in
set_option maxHeartbeats 4000000 in
theorem lw_c7 {G : am_G} {nm : String} {k n : Nat} (hst : am_sta G) (I A : Nat → Nat → Int32) (hInv : cz_Inv I A) (L i : Nat) (hL : (gL G 2).2.1 = L) (hL2 : L ≤ 2560) (hi : i + 5 ≤ L) (hk : ∀ I2 A2, cz_Inv I2 A2 → V G (ML nm) room_1 (lwF G) k n 567 [(0, .retAddr 2), (1, .ref 0), (2, .ref mM), (3, .int (nI i))] [] (hp I2 A2)) : V G (ML nm) room_1 (lwF G) k n 317 [(0, .retAddr 2), (1, .ref 0), (2, .ref mM), (3, .int (nI i))] [] (hp I A) := by
  subst hL
  obtain ⟨Q7, C7, H7⟩ := pq_weight (G := G) hst ((gL G 2).2.2 (i + 1)) I A hInv
  refine V.aload_n (j := 1) rfl dL_law_317 ?_
  refine V.aload_nL (j := 0) rfl dL_law_318 ?_
  refine V.iload_n (j := 3) rfl dL_law_319 ?_
  refine V.iconst (v := nI 1) (by decide) dL_law_320 ?_
  refine V.iaddN dL_law_321 ?_
  refine V.ildL (v := (gL G 2).2.2 (i + 1)) dL_law_322 (by decide) (vp_in_nI (by omega) (by omega)) (by rw [nI_clamp (by omega)]) ?_
  refine V.cV (As := [.int ((gL G 2).2.2 (i + 1))]) (st := []) dL_law_323 sL_45 iX7_weight lX7_weight rfl rfl C7 ⟨by decide, by decide⟩ (Nat.le_of_ble_eq_true rfl) rfl (fun r I1 A1 hq => ?_)
  obtain ⟨x, rfl, Q8, C8, H8⟩ := H7 r I1 A1 hq
  refine V.st (st' := [.int x]) rfl ?_
  refine V.aload_n (j := 2) rfl dL_law_326 ?_
  refine V.aload_nL (j := 0) rfl dL_law_327 ?_
  refine V.iload_n (j := 3) rfl dL_law_328 ?_
  refine V.iconst (v := nI 1) (by decide) dL_law_329 ?_
  refine V.iaddN dL_law_330 ?_
  refine V.ildL (v := (gL G 2).2.2 (i + 1)) dL_law_331 (by decide) (vp_in_nI (by omega) (by omega)) (by rw [nI_clamp (by omega)]) ?_
  refine V.cV (As := [.int ((gL G 2).2.2 (i + 1))]) (st := [.int x]) dL_law_332 sL_48 iX8_weight lX8_weight rfl rfl C8 ⟨by decide, by decide⟩ (Nat.le_of_ble_eq_true rfl) rfl (fun r I2 A2 hq2 => ?_)
  obtain ⟨rfl, hInv2⟩ := H8 r I2 A2 hq2
  refine V.st (st' := [.int x, .int x]) rfl ?_
  exact V.icmp_eq (tgt := 567) dL_law_335 (by decide) (fun _ => hk I2 A2 hInv2) (fun z => absurd rfl z)
set_option maxRecDepth 100000 in
set_option maxHeartbeats 4000000 in
theorem lw_c8 {G : am_G} {nm : String} {k n : Nat} (hst : am_sta G) (I A : Nat → Nat → Int32) (hInv : cz_Inv I A) (L i : Nat) (hL : (gL G 2).2.1 = L) (hL2 : L ≤ 2560) (hi : i + 5 ≤ L) (hk : ∀ I2 A2, cz_Inv I2 A2 → V G (ML nm) room_1 (lwF G) k n 567 [(0, .retAddr 2), (1, .ref 0), (2, .ref mM), (3, .int (nI i))] [] (hp I2 A2)) : V G (ML nm) room_1 (lwF G) k n 340 [(0, .retAddr 2), (1, .ref 0), (2, .ref mM), (3, .int (nI i))] [] (hp I A) := by
  subst hL
  obtain ⟨Q7, C7, H7⟩ := pq_home (G := G) hst ((gL G 2).2.2 (i + 1)) I A hInv
  refine V.aload_n (j := 1) rfl dL_law_340 ?_
  refine V.aload_nL (j := 0) rfl dL_law_341 ?_
  refine V.iload_n (j := 3) rfl dL_law_342 ?_
  refine V.iconst (v := nI 1) (by decide) dL_law_343 ?_
  refine V.iaddN dL_law_344 ?_
  refine V.ildL (v := (gL G 2).2.2 (i + 1)) dL_law_345 (by decide) (vp_in_nI (by omega) (by omega)) (by rw [nI_clamp (by omega)]) ?_
  refine V.cV (As := [.int ((gL G 2).2.2 (i + 1))]) (st := []) dL_law_346 sL_49 iX7_home lX7_home rfl rfl C7 ⟨by decide, by decide⟩ (Nat.le_of_ble_eq_true rfl) rfl (fun r I1 A1 hq => ?_)
  obtain ⟨x, rfl, Q8, C8, H8⟩ := H7 r I1 A1 hq
  refine V.st (st' := [.int x]) rfl ?_
  refine V.aload_n (j := 2) rfl dL_law_349 ?_
  refine V.aload_nL (j := 0) rfl dL_law_350 ?_
  refine V.iload_n (j := 3) rfl dL_law_351 ?_
  refine V.iconst (v := nI 1) (by decide) dL_law_352 ?_
  refine V.iaddN dL_law_353 ?_
  refine V.ildL (v := (gL G 2).2.2 (i + 1)) dL_law_354 (by decide) (vp_in_nI (by omega) (by omega)) (by rw [nI_clamp (by omega)]) ?_
  refine V.cV (As := [.int ((gL G 2).2.2 (i + 1))]) (st := [.int x]) dL_law_355 sL_52 iX8_home lX8_home rfl rfl C8 ⟨by decide, by decide⟩ (Nat.le_of_ble_eq_true rfl) rfl (fun r I2 A2 hq2 => ?_)
  obtain ⟨rfl, hInv2⟩ := H8 r I2 A2 hq2
  refine V.st (st' := [.int x, .int x]) rfl ?_
  exact V.icmp_eq (tgt := 567) dL_law_358 (by decide) (fun _ => hk I2 A2 hInv2) (fun z => absurd rfl z)
set_option maxRecDepth 100000 in
set_option maxHeartbeats 4000000 in
theorem lw_c9 {G : am_G} {nm : String} {k n : Nat} (hst : am_sta G) (I A : Nat → Nat → Int32) (hInv : cz_Inv I A) (L i : Nat) (hL : (gL G 2).2.1 = L) (hL2 : L ≤ 2560) (hi : i + 5 ≤ L) (hk : ∀ I2 A2, cz_Inv I2 A2 → V G (ML nm) room_1 (lwF G) k n 567 [(0, .retAddr 2), (1, .ref 0), (2, .ref mM), (3, .int (nI i))] [] (hp I2 A2)) : V G (ML nm) room_1 (lwF G) k n 363 [(0, .retAddr 2), (1, .ref 0), (2, .ref mM), (3, .int (nI i))] [] (hp I A) := by
  subst hL
  obtain ⟨Q7, C7, H7⟩ := pq_order (G := G) hst ((gL G 2).2.2 (i + 1)) I A hInv
  refine V.aload_n (j := 1) rfl dL_law_363 ?_
  refine V.aload_nL (j := 0) rfl dL_law_364 ?_
  refine V.iload_n (j := 3) rfl dL_law_365 ?_
  refine V.iconst (v := nI 1) (by decide) dL_law_366 ?_
  refine V.iaddN dL_law_367 ?_
  refine V.ildL (v := (gL G 2).2.2 (i + 1)) dL_law_368 (by decide) (vp_in_nI (by omega) (by omega)) (by rw [nI_clamp (by omega)]) ?_
  refine V.cV (As := [.int ((gL G 2).2.2 (i + 1))]) (st := []) dL_law_369 sL_53 iX7_order lX7_order rfl rfl C7 ⟨by decide, by decide⟩ (Nat.le_of_ble_eq_true rfl) rfl (fun r I1 A1 hq => ?_)
  obtain ⟨x, rfl, Q8, C8, H8⟩ := H7 r I1 A1 hq
  refine V.st (st' := [.int x]) rfl ?_
  refine V.aload_n (j := 2) rfl dL_law_372 ?_
  refine V.aload_nL (j := 0) rfl dL_law_373 ?_
  refine V.iload_n (j := 3) rfl dL_law_374 ?_
  refine V.iconst (v := nI 1) (by decide) dL_law_375 ?_
  refine V.iaddN dL_law_376 ?_
  refine V.ildL (v := (gL G 2).2.2 (i + 1)) dL_law_377 (by decide) (vp_in_nI (by omega) (by omega)) (by rw [nI_clamp (by omega)]) ?_
  refine V.cV (As := [.int ((gL G 2).2.2 (i + 1))]) (st := [.int x]) dL_law_378 sL_56 iX8_order lX8_order rfl rfl C8 ⟨by decide, by decide⟩ (Nat.le_of_ble_eq_true rfl) rfl (fun r I2 A2 hq2 => ?_)
  obtain ⟨rfl, hInv2⟩ := H8 r I2 A2 hq2
  refine V.st (st' := [.int x, .int x]) rfl ?_
  exact V.icmp_eq (tgt := 567) dL_law_381 (by decide) (fun _ => hk I2 A2 hInv2) (fun z => absurd rfl z)
set_option maxRecDepth 100000 in
set_option maxHeartbeats 4000000 in
theorem lw_c10 {G : am_G} {nm : String} {k n : Nat} (hst : am_sta G) (I A : Nat → Nat → Int32) (hInv : cz_Inv I A) (L i : Nat) (hL : (gL G 2).2.1 = L) (hL2 : L ≤ 2560) (hi : i + 5 ≤ L) (hk : ∀ I2 A2, cz_Inv I2 A2 → V G (ML nm) room_1 (lwF G) k n 567 [(0, .retAddr 2), (1, .ref 0), (2, .ref mM), (3, .int (nI i))] [] (hp I2 A2)) : V G (ML nm) room_1 (lwF G) k n 386 [(0, .retAddr 2), (1, .ref 0), (2, .ref mM), (3, .int (nI i))] [] (hp I A) := by
  subst hL
  obtain ⟨Q7, C7, H7⟩ := pq_count (G := G) hst ((gL G 2).2.2 (i + 1)) I A hInv
  refine V.aload_n (j := 1) rfl dL_law_386 ?_
  refine V.aload_nL (j := 0) rfl dL_law_387 ?_
  refine V.iload_n (j := 3) rfl dL_law_388 ?_
  refine V.iconst (v := nI 1) (by decide) dL_law_389 ?_
  refine V.iaddN dL_law_390 ?_
  refine V.ildL (v := (gL G 2).2.2 (i + 1)) dL_law_391 (by decide) (vp_in_nI (by omega) (by omega)) (by rw [nI_clamp (by omega)]) ?_
  refine V.cV (As := [.int ((gL G 2).2.2 (i + 1))]) (st := []) dL_law_392 sL_57 iX7_count lX7_count rfl rfl C7 ⟨by decide, by decide⟩ (Nat.le_of_ble_eq_true rfl) rfl (fun r I1 A1 hq => ?_)
  obtain ⟨x, rfl, Q8, C8, H8⟩ := H7 r I1 A1 hq
  refine V.st (st' := [.int x]) rfl ?_
  refine V.aload_n (j := 2) rfl dL_law_395 ?_
  refine V.aload_nL (j := 0) rfl dL_law_396 ?_
  refine V.iload_n (j := 3) rfl dL_law_397 ?_
  refine V.iconst (v := nI 1) (by decide) dL_law_398 ?_
  refine V.iaddN dL_law_399 ?_
  refine V.ildL (v := (gL G 2).2.2 (i + 1)) dL_law_400 (by decide) (vp_in_nI (by omega) (by omega)) (by rw [nI_clamp (by omega)]) ?_
  refine V.cV (As := [.int ((gL G 2).2.2 (i + 1))]) (st := [.int x]) dL_law_401 sL_60 iX8_count lX8_count rfl rfl C8 ⟨by decide, by decide⟩ (Nat.le_of_ble_eq_true rfl) rfl (fun r I2 A2 hq2 => ?_)
  obtain ⟨rfl, hInv2⟩ := H8 r I2 A2 hq2
  refine V.st (st' := [.int x, .int x]) rfl ?_
  exact V.icmp_eq (tgt := 567) dL_law_404 (by decide) (fun _ => hk I2 A2 hInv2) (fun z => absurd rfl z)
set_option maxRecDepth 100000 in
set_option maxHeartbeats 4000000 in
theorem lw_c11 {G : am_G} {nm : String} {k n : Nat} (hst : am_sta G) (I A : Nat → Nat → Int32) (hInv : cz_Inv I A) (L i : Nat) (hL : (gL G 2).2.1 = L) (hL2 : L ≤ 2560) (hi : i + 5 ≤ L) (hk : ∀ I2 A2, cz_Inv I2 A2 → V G (ML nm) room_1 (lwF G) k n 567 [(0, .retAddr 2), (1, .ref 0), (2, .ref mM), (3, .int (nI i))] [] (hp I2 A2)) : V G (ML nm) room_1 (lwF G) k n 409 [(0, .retAddr 2), (1, .ref 0), (2, .ref mM), (3, .int (nI i))] [] (hp I A) := by
  subst hL
  obtain ⟨Q7, C7, H7⟩ := pq_item (G := G) hst ((gL G 2).2.2 (i + 1)) ((gL G 2).2.2 (i + 2)) ((gL G 2).2.2 (i + 3)) I A hInv
  refine V.aload_n (j := 1) rfl dL_law_409 ?_
  refine V.aload_nL (j := 0) rfl dL_law_410 ?_
  refine V.iload_n (j := 3) rfl dL_law_411 ?_
  refine V.iconst (v := nI 1) (by decide) dL_law_412 ?_
  refine V.iaddN dL_law_413 ?_
  refine V.ildL (v := (gL G 2).2.2 (i + 1)) dL_law_414 (by decide) (vp_in_nI (by omega) (by omega)) (by rw [nI_clamp (by omega)]) ?_
  refine V.aload_nL (j := 0) rfl dL_law_415 ?_
  refine V.iload_n (j := 3) rfl dL_law_416 ?_
  refine V.iconst (v := nI 2) (by decide) dL_law_417 ?_
  refine V.iaddN dL_law_418 ?_
  refine V.ildL (v := (gL G 2).2.2 (i + 2)) dL_law_419 (by decide) (vp_in_nI (by omega) (by omega)) (by rw [nI_clamp (by omega)]) ?_
  refine V.aload_nL (j := 0) rfl dL_law_420 ?_
  refine V.iload_n (j := 3) rfl dL_law_421 ?_
  refine V.iconst (v := nI 3) (by decide) dL_law_422 ?_
  refine V.iaddN dL_law_423 ?_
  refine V.ildL (v := (gL G 2).2.2 (i + 3)) dL_law_424 (by decide) (vp_in_nI (by omega) (by omega)) (by rw [nI_clamp (by omega)]) ?_
  refine V.cV (As := [.int ((gL G 2).2.2 (i + 1)), .int ((gL G 2).2.2 (i + 2)), .int ((gL G 2).2.2 (i + 3))]) (st := []) dL_law_425 sL_61 iX7_item lX7_item rfl rfl C7 ⟨by decide, by decide⟩ (Nat.le_of_ble_eq_true rfl) rfl (fun r I1 A1 hq => ?_)
  obtain ⟨x, rfl, Q8, C8, H8⟩ := H7 r I1 A1 hq
  refine V.st (st' := [.int x]) rfl ?_
  refine V.aload_n (j := 2) rfl dL_law_428 ?_
  refine V.aload_nL (j := 0) rfl dL_law_429 ?_
  refine V.iload_n (j := 3) rfl dL_law_430 ?_
  refine V.iconst (v := nI 1) (by decide) dL_law_431 ?_
  refine V.iaddN dL_law_432 ?_
  refine V.ildL (v := (gL G 2).2.2 (i + 1)) dL_law_433 (by decide) (vp_in_nI (by omega) (by omega)) (by rw [nI_clamp (by omega)]) ?_
  refine V.aload_nL (j := 0) rfl dL_law_434 ?_
  refine V.iload_n (j := 3) rfl dL_law_435 ?_
  refine V.iconst (v := nI 2) (by decide) dL_law_436 ?_
  refine V.iaddN dL_law_437 ?_
  refine V.ildL (v := (gL G 2).2.2 (i + 2)) dL_law_438 (by decide) (vp_in_nI (by omega) (by omega)) (by rw [nI_clamp (by omega)]) ?_
  refine V.aload_nL (j := 0) rfl dL_law_439 ?_
  refine V.iload_n (j := 3) rfl dL_law_440 ?_
  refine V.iconst (v := nI 3) (by decide) dL_law_441 ?_
  refine V.iaddN dL_law_442 ?_
  refine V.ildL (v := (gL G 2).2.2 (i + 3)) dL_law_443 (by decide) (vp_in_nI (by omega) (by omega)) (by rw [nI_clamp (by omega)]) ?_
  refine V.cV (As := [.int ((gL G 2).2.2 (i + 1)), .int ((gL G 2).2.2 (i + 2)), .int ((gL G 2).2.2 (i + 3))]) (st := [.int x]) dL_law_444 sL_65 iX8_item lX8_item rfl rfl C8 ⟨by decide, by decide⟩ (Nat.le_of_ble_eq_true rfl) rfl (fun r I2 A2 hq2 => ?_)
  obtain ⟨rfl, hInv2⟩ := H8 r I2 A2 hq2
  refine V.st (st' := [.int x, .int x]) rfl ?_
  exact V.icmp_eq (tgt := 567) dL_law_447 (by decide) (fun _ => hk I2 A2 hInv2) (fun z => absurd rfl z)
set_option maxRecDepth 100000 in
set_option maxHeartbeats 4000000 in
theorem lw_c12 {G : am_G} {nm : String} {k n : Nat} (hst : am_sta G) (I A : Nat → Nat → Int32) (hInv : cz_Inv I A) (L i : Nat) (hL : (gL G 2).2.1 = L) (hL2 : L ≤ 2560) (hi : i + 5 ≤ L) (hk : ∀ I2 A2, cz_Inv I2 A2 → V G (ML nm) room_1 (lwF G) k n 567 [(0, .retAddr 2), (1, .ref 0), (2, .ref mM), (3, .int (nI i))] [] (hp I2 A2)) : V G (ML nm) room_1 (lwF G) k n 452 [(0, .retAddr 2), (1, .ref 0), (2, .ref mM), (3, .int (nI i))] [] (hp I A) := by
  subst hL
  obtain ⟨Q7, C7, H7⟩ := pq_run (G := G) hst ((gL G 2).2.2 (i + 1)) ((gL G 2).2.2 (i + 2)) I A hInv
  refine V.aload_n (j := 1) rfl dL_law_452 ?_
  refine V.aload_nL (j := 0) rfl dL_law_453 ?_
  refine V.iload_n (j := 3) rfl dL_law_454 ?_
  refine V.iconst (v := nI 1) (by decide) dL_law_455 ?_
  refine V.iaddN dL_law_456 ?_
  refine V.ildL (v := (gL G 2).2.2 (i + 1)) dL_law_457 (by decide) (vp_in_nI (by omega) (by omega)) (by rw [nI_clamp (by omega)]) ?_
  refine V.aload_nL (j := 0) rfl dL_law_458 ?_
  refine V.iload_n (j := 3) rfl dL_law_459 ?_
  refine V.iconst (v := nI 2) (by decide) dL_law_460 ?_
  refine V.iaddN dL_law_461 ?_
  refine V.ildL (v := (gL G 2).2.2 (i + 2)) dL_law_462 (by decide) (vp_in_nI (by omega) (by omega)) (by rw [nI_clamp (by omega)]) ?_
  refine V.cV (As := [.int ((gL G 2).2.2 (i + 1)), .int ((gL G 2).2.2 (i + 2))]) (st := []) dL_law_463 sL_66 iX7_run lX7_run rfl rfl C7 ⟨by decide, by decide⟩ (Nat.le_of_ble_eq_true rfl) rfl (fun r I1 A1 hq => ?_)
  obtain ⟨x, rfl, Q8, C8, H8⟩ := H7 r I1 A1 hq
  refine V.st (st' := [.int x]) rfl ?_
  refine V.aload_n (j := 2) rfl dL_law_466 ?_
  refine V.aload_nL (j := 0) rfl dL_law_467 ?_
  refine V.iload_n (j := 3) rfl dL_law_468 ?_
  refine V.iconst (v := nI 1) (by decide) dL_law_469 ?_
  refine V.iaddN dL_law_470 ?_
  refine V.ildL (v := (gL G 2).2.2 (i + 1)) dL_law_471 (by decide) (vp_in_nI (by omega) (by omega)) (by rw [nI_clamp (by omega)]) ?_
  refine V.aload_nL (j := 0) rfl dL_law_472 ?_
  refine V.iload_n (j := 3) rfl dL_law_473 ?_
  refine V.iconst (v := nI 2) (by decide) dL_law_474 ?_
  refine V.iaddN dL_law_475 ?_
  refine V.ildL (v := (gL G 2).2.2 (i + 2)) dL_law_476 (by decide) (vp_in_nI (by omega) (by omega)) (by rw [nI_clamp (by omega)]) ?_
  refine V.cV (As := [.int ((gL G 2).2.2 (i + 1)), .int ((gL G 2).2.2 (i + 2))]) (st := [.int x]) dL_law_477 sL_69 iX8_run lX8_run rfl rfl C8 ⟨by decide, by decide⟩ (Nat.le_of_ble_eq_true rfl) rfl (fun r I2 A2 hq2 => ?_)
  obtain ⟨rfl, hInv2⟩ := H8 r I2 A2 hq2
  refine V.st (st' := [.int x, .int x]) rfl ?_
  exact V.icmp_eq (tgt := 567) dL_law_480 (by decide) (fun _ => hk I2 A2 hInv2) (fun z => absurd rfl z)
set_option maxRecDepth 100000 in
set_option maxHeartbeats 4000000 in
theorem lw_c13 {G : am_G} {nm : String} {k n : Nat} (hst : am_sta G) (I A : Nat → Nat → Int32) (hInv : cz_Inv I A) (L i : Nat) (hL : (gL G 2).2.1 = L) (hL2 : L ≤ 2560) (hi : i + 5 ≤ L) (hk : ∀ I2 A2, cz_Inv I2 A2 → V G (ML nm) room_1 (lwF G) k n 567 [(0, .retAddr 2), (1, .ref 0), (2, .ref mM), (3, .int (nI i))] [] (hp I2 A2)) : V G (ML nm) room_1 (lwF G) k n 485 [(0, .retAddr 2), (1, .ref 0), (2, .ref mM), (3, .int (nI i))] [] (hp I A) := by
  subst hL
  obtain ⟨Q7, C7, H7⟩ := pq_made (G := G) ((gL G 2).2.2 (i + 1)) I A hInv
  refine V.aload_n (j := 1) rfl dL_law_485 ?_
  refine V.aload_nL (j := 0) rfl dL_law_486 ?_
  refine V.iload_n (j := 3) rfl dL_law_487 ?_
  refine V.iconst (v := nI 1) (by decide) dL_law_488 ?_
  refine V.iaddN dL_law_489 ?_
  refine V.ildL (v := (gL G 2).2.2 (i + 1)) dL_law_490 (by decide) (vp_in_nI (by omega) (by omega)) (by rw [nI_clamp (by omega)]) ?_
  refine V.cV (As := [.int ((gL G 2).2.2 (i + 1))]) (st := []) dL_law_491 sL_70 iX7_made lX7_made rfl rfl C7 ⟨by decide, by decide⟩ (Nat.le_of_ble_eq_true rfl) rfl (fun r I1 A1 hq => ?_)
  obtain ⟨x, rfl, Q8, C8, H8⟩ := H7 r I1 A1 hq
  refine V.st (st' := [.int x]) rfl ?_
  refine V.aload_n (j := 2) rfl dL_law_494 ?_
  refine V.aload_nL (j := 0) rfl dL_law_495 ?_
  refine V.iload_n (j := 3) rfl dL_law_496 ?_
  refine V.iconst (v := nI 1) (by decide) dL_law_497 ?_
  refine V.iaddN dL_law_498 ?_
  refine V.ildL (v := (gL G 2).2.2 (i + 1)) dL_law_499 (by decide) (vp_in_nI (by omega) (by omega)) (by rw [nI_clamp (by omega)]) ?_
  refine V.cV (As := [.int ((gL G 2).2.2 (i + 1))]) (st := [.int x]) dL_law_500 sL_73 iX8_made lX8_made rfl rfl C8 ⟨by decide, by decide⟩ (Nat.le_of_ble_eq_true rfl) rfl (fun r I2 A2 hq2 => ?_)
  obtain ⟨rfl, hInv2⟩ := H8 r I2 A2 hq2
  refine V.st (st' := [.int x, .int x]) rfl ?_
  exact V.icmp_eq (tgt := 567) dL_law_503 (by decide) (fun _ => hk I2 A2 hInv2) (fun z => absurd rfl z)
set_option maxRecDepth 100000 in
set_option maxHeartbeats 4000000 in
theorem lw_c14 {G : am_G} {nm : String} {k n : Nat} (hst : am_sta G) (I A : Nat → Nat → Int32) (hInv : cz_Inv I A) (L i : Nat) (hL : (gL G 2).2.1 = L) (hL2 : L ≤ 2560) (hi : i + 5 ≤ L) (hk : ∀ I2 A2, cz_Inv I2 A2 → V G (ML nm) room_1 (lwF G) k n 567 [(0, .retAddr 2), (1, .ref 0), (2, .ref mM), (3, .int (nI i))] [] (hp I2 A2)) : V G (ML nm) room_1 (lwF G) k n 508 [(0, .retAddr 2), (1, .ref 0), (2, .ref mM), (3, .int (nI i))] [] (hp I A) := by
  subst hL
  obtain ⟨Q7, C7, H7⟩ := pq_said (G := G) ((gL G 2).2.2 (i + 1)) I A hInv
  refine V.aload_n (j := 1) rfl dL_law_508 ?_
  refine V.aload_nL (j := 0) rfl dL_law_509 ?_
  refine V.iload_n (j := 3) rfl dL_law_510 ?_
  refine V.iconst (v := nI 1) (by decide) dL_law_511 ?_
  refine V.iaddN dL_law_512 ?_
  refine V.ildL (v := (gL G 2).2.2 (i + 1)) dL_law_513 (by decide) (vp_in_nI (by omega) (by omega)) (by rw [nI_clamp (by omega)]) ?_
  refine V.cV (As := [.int ((gL G 2).2.2 (i + 1))]) (st := []) dL_law_514 sL_74 iX7_said lX7_said rfl rfl C7 ⟨by decide, by decide⟩ (Nat.le_of_ble_eq_true rfl) rfl (fun r I1 A1 hq => ?_)
  obtain ⟨x, rfl, Q8, C8, H8⟩ := H7 r I1 A1 hq
  refine V.st (st' := [.int x]) rfl ?_
  refine V.aload_n (j := 2) rfl dL_law_517 ?_
  refine V.aload_nL (j := 0) rfl dL_law_518 ?_
  refine V.iload_n (j := 3) rfl dL_law_519 ?_
  refine V.iconst (v := nI 1) (by decide) dL_law_520 ?_
  refine V.iaddN dL_law_521 ?_
  refine V.ildL (v := (gL G 2).2.2 (i + 1)) dL_law_522 (by decide) (vp_in_nI (by omega) (by omega)) (by rw [nI_clamp (by omega)]) ?_
  refine V.cV (As := [.int ((gL G 2).2.2 (i + 1))]) (st := [.int x]) dL_law_523 sL_77 iX8_said lX8_said rfl rfl C8 ⟨by decide, by decide⟩ (Nat.le_of_ble_eq_true rfl) rfl (fun r I2 A2 hq2 => ?_)
  obtain ⟨rfl, hInv2⟩ := H8 r I2 A2 hq2
  refine V.st (st' := [.int x, .int x]) rfl ?_
  exact V.icmp_eq (tgt := 567) dL_law_526 (by decide) (fun _ => hk I2 A2 hInv2) (fun z => absurd rfl z)
set_option maxRecDepth 100000 in
set_option maxHeartbeats 4000000 in
theorem lw_c15 {G : am_G} {nm : String} {k n : Nat} (hst : am_sta G) (I A : Nat → Nat → Int32) (hInv : cz_Inv I A) (L i : Nat) (hL : (gL G 2).2.1 = L) (hL2 : L ≤ 2560) (hi : i + 5 ≤ L) (hk : ∀ I2 A2, cz_Inv I2 A2 → V G (ML nm) room_1 (lwF G) k n 567 [(0, .retAddr 2), (1, .ref 0), (2, .ref mM), (3, .int (nI i))] [] (hp I2 A2)) : V G (ML nm) room_1 (lwF G) k n 531 [(0, .retAddr 2), (1, .ref 0), (2, .ref mM), (3, .int (nI i))] [] (hp I A) := by
  subst hL
  obtain ⟨Q7, C7, H7⟩ := pq_cell (G := G) ((gL G 2).2.2 (i + 1)) I A hInv
  refine V.aload_n (j := 1) rfl dL_law_531 ?_
  refine V.aload_nL (j := 0) rfl dL_law_532 ?_
  refine V.iload_n (j := 3) rfl dL_law_533 ?_
  refine V.iconst (v := nI 1) (by decide) dL_law_534 ?_
  refine V.iaddN dL_law_535 ?_
  refine V.ildL (v := (gL G 2).2.2 (i + 1)) dL_law_536 (by decide) (vp_in_nI (by omega) (by omega)) (by rw [nI_clamp (by omega)]) ?_
  refine V.cV (As := [.int ((gL G 2).2.2 (i + 1))]) (st := []) dL_law_537 sL_78 iX7_cell lX7_cell rfl rfl C7 ⟨by decide, by decide⟩ (Nat.le_of_ble_eq_true rfl) rfl (fun r I1 A1 hq => ?_)
  obtain ⟨x, rfl, Q8, C8, H8⟩ := H7 r I1 A1 hq
  refine V.st (st' := [.int x]) rfl ?_
  refine V.aload_n (j := 2) rfl dL_law_540 ?_
  refine V.aload_nL (j := 0) rfl dL_law_541 ?_
  refine V.iload_n (j := 3) rfl dL_law_542 ?_
  refine V.iconst (v := nI 1) (by decide) dL_law_543 ?_
  refine V.iaddN dL_law_544 ?_
  refine V.ildL (v := (gL G 2).2.2 (i + 1)) dL_law_545 (by decide) (vp_in_nI (by omega) (by omega)) (by rw [nI_clamp (by omega)]) ?_
  refine V.cV (As := [.int ((gL G 2).2.2 (i + 1))]) (st := [.int x]) dL_law_546 sL_81 iX8_cell lX8_cell rfl rfl C8 ⟨by decide, by decide⟩ (Nat.le_of_ble_eq_true rfl) rfl (fun r I2 A2 hq2 => ?_)
  obtain ⟨rfl, hInv2⟩ := H8 r I2 A2 hq2
  refine V.st (st' := [.int x, .int x]) rfl ?_
  exact V.icmp_eq (tgt := 567) dL_law_549 (by decide) (fun _ => hk I2 A2 hInv2) (fun z => absurd rfl z)
set_option maxRecDepth 100000 in
set_option maxHeartbeats 4000000 in
theorem lw_c16 {G : am_G} {nm : String} {k n : Nat} (hst : am_sta G) (I A : Nat → Nat → Int32) (hInv : cz_Inv I A) (L i : Nat) (hL : (gL G 2).2.1 = L) (hL2 : L ≤ 2560) (hi : i + 5 ≤ L) (hk : ∀ I2 A2, cz_Inv I2 A2 → V G (ML nm) room_1 (lwF G) k n 567 [(0, .retAddr 2), (1, .ref 0), (2, .ref mM), (3, .int (nI i))] [] (hp I2 A2)) : V G (ML nm) room_1 (lwF G) k n 554 [(0, .retAddr 2), (1, .ref 0), (2, .ref mM), (3, .int (nI i))] [] (hp I A) := by
  subst hL
  obtain ⟨Q7, C7, H7⟩ := pq_check (G := G) hst  I A hInv
  refine V.aload_n (j := 1) rfl dL_law_554 ?_
  refine V.cV (As := []) (st := []) dL_law_555 sL_82 iX7_check lX7_check rfl rfl C7 ⟨by decide, by decide⟩ (Nat.le_of_ble_eq_true rfl) rfl (fun r I1 A1 hq => ?_)
  obtain ⟨x, rfl, Q8, C8, H8⟩ := H7 r I1 A1 hq
  refine V.st (st' := [.int x]) rfl ?_
  refine V.aload_n (j := 2) rfl dL_law_558 ?_
  refine V.cV (As := []) (st := [.int x]) dL_law_559 sL_85 iX8_check lX8_check rfl rfl C8 ⟨by decide, by decide⟩ (Nat.le_of_ble_eq_true rfl) rfl (fun r I2 A2 hq2 => ?_)
  obtain ⟨rfl, hInv2⟩ := H8 r I2 A2 hq2
  refine V.st (st' := [.int x, .int x]) rfl ?_
  exact V.icmp_eq (tgt := 567) dL_law_562 (by decide) (fun _ => hk I2 A2 hInv2) (fun z => absurd rfl z)
set_option maxRecDepth 100000 in
set_option maxHeartbeats 4000000 in
theorem lw_loop {G : am_G} {nm : String} {k n : Nat} (hst : am_sta G) (L : Nat) (hL : (gL G 2).2.1 = L) (hL2 : L ≤ 2560) : ∀ (m i : Nat) (I A : Nat → Nat → Int32), cz_Inv I A → i ≤ 2565 → L ≤ i + 5 * m + 4 → V G (ML nm) room_1 (lwF G) k n 18 [(0, .retAddr 2), (1, .ref 0), (2, .ref mM), (3, .int (nI i))] [] (hp I A) := by
  intro m
  induction m with
  | zero =>
    intro i I A hInv hi2 hm
    refine V.iload_n (j := 3) rfl dL_law_18 ?_
    refine V.aload_nL (j := 0) rfl dL_law_19 ?_
    refine V.alenL (v := nI L) dL_law_20 (by decide) (by rw [hL]; rfl) ?_
    refine V.iconst (v := nI 5) (by decide) dL_law_21 ?_
    refine V.isub dL_law_22 ?_
    refine V.icmp_gt (tgt := 573) dL_law_23 (by decide) (fun _ => ?_) (fun z => ?_)
    · refine V.iconst (v := nI 1) (by decide) dL_law_573 ?_
      exact V.lawEnd dL_law_574
    · have := lw_bound hL2 (by omega) z
      omega
  | succ m ih =>
    intro i I A hInv hi2 hm
    refine V.iload_n (j := 3) rfl dL_law_18 ?_
    refine V.aload_nL (j := 0) rfl dL_law_19 ?_
    refine V.alenL (v := nI L) dL_law_20 (by decide) (by rw [hL]; rfl) ?_
    refine V.iconst (v := nI 5) (by decide) dL_law_21 ?_
    refine V.isub dL_law_22 ?_
    refine V.icmp_gt (tgt := 573) dL_law_23 (by decide) (fun _ => ?_) (fun z => ?_)
    · refine V.iconst (v := nI 1) (by decide) dL_law_573 ?_
      exact V.lawEnd dL_law_574
    have hi := lw_bound hL2 (by omega) z
    have K : ∀ I2 A2, cz_Inv I2 A2 → V G (ML nm) room_1 (lwF G) k n 567 [(0, .retAddr 2), (1, .ref 0), (2, .ref mM), (3, .int (nI i))] [] (hp I2 A2) := by
      intro I2 A2 h2
      refine V.iinc (j := 3) (x := nI i) (v := nI (i + 5)) (ls' := [(0, .retAddr 2), (1, .ref 0), (2, .ref mM), (3, .int (nI (i + 5)))]) dL_law_567 rfl (nI_add i 5) (show 3 < 4 by decide) rfl ?_
      refine V.goto (tgt := 18) dL_law_570 (by decide) ?_
      exact ih (i + 5) I2 A2 h2 (by omega) (by omega)
    refine V.aload_nL (j := 0) rfl dL_law_26 ?_
    refine V.iload_n (j := 3) rfl dL_law_27 ?_
    refine V.ildL (v := (gL G 2).2.2 i) dL_law_28 (by decide) (vp_in_nI (by omega) (by omega)) (by rw [nI_clamp (by omega)]) ?_
    refine V.bipush (v := nI 31) (by decide) dL_law_29 ?_
    refine V.iand dL_law_31 ?_
    by_cases q0 : (gL G 2).2.2 i &&& nI 31 = nI 0
    · rw [q0]
      refine V.tableIn (tgt := 116) dL_law_32 (by decide) (by decide) rfl (by decide) ?_
      exact lw_c0 hst I A hInv L i hL hL2 hi K
    by_cases q1 : (gL G 2).2.2 i &&& nI 31 = nI 1
    · rw [q1]
      refine V.tableIn (tgt := 139) dL_law_32 (by decide) (by decide) rfl (by decide) ?_
      exact lw_c1 hst I A hInv L i hL hL2 hi K
    by_cases q2 : (gL G 2).2.2 i &&& nI 31 = nI 2
    · rw [q2]
      refine V.tableIn (tgt := 192) dL_law_32 (by decide) (by decide) rfl (by decide) ?_
      exact lw_c2 hst I A hInv L i hL hL2 hi K
    by_cases q3 : (gL G 2).2.2 i &&& nI 31 = nI 3
    · rw [q3]
      refine V.tableIn (tgt := 205) dL_law_32 (by decide) (by decide) rfl (by decide) ?_
      exact lw_c3 hst I A hInv L i hL hL2 hi K
    by_cases q4 : (gL G 2).2.2 i &&& nI 31 = nI 4
    · rw [q4]
      refine V.tableIn (tgt := 238) dL_law_32 (by decide) (by decide) rfl (by decide) ?_
      exact lw_c4 hst I A hInv L i hL hL2 hi K
    by_cases q5 : (gL G 2).2.2 i &&& nI 31 = nI 5
    · rw [q5]
      refine V.tableIn (tgt := 271) dL_law_32 (by decide) (by decide) rfl (by decide) ?_
      exact lw_c5 hst I A hInv L i hL hL2 hi K
    by_cases q6 : (gL G 2).2.2 i &&& nI 31 = nI 6
    · rw [q6]
      refine V.tableIn (tgt := 294) dL_law_32 (by decide) (by decide) rfl (by decide) ?_
      exact lw_c6 hst I A hInv L i hL hL2 hi K
    by_cases q7 : (gL G 2).2.2 i &&& nI 31 = nI 7
    · rw [q7]
      refine V.tableIn (tgt := 317) dL_law_32 (by decide) (by decide) rfl (by decide) ?_
      exact lw_c7 hst I A hInv L i hL hL2 hi K
    by_cases q8 : (gL G 2).2.2 i &&& nI 31 = nI 8
    · rw [q8]
      refine V.tableIn (tgt := 340) dL_law_32 (by decide) (by decide) rfl (by decide) ?_
      exact lw_c8 hst I A hInv L i hL hL2 hi K
    by_cases q9 : (gL G 2).2.2 i &&& nI 31 = nI 9
    · rw [q9]
      refine V.tableIn (tgt := 363) dL_law_32 (by decide) (by decide) rfl (by decide) ?_
      exact lw_c9 hst I A hInv L i hL hL2 hi K
    by_cases q10 : (gL G 2).2.2 i &&& nI 31 = nI 10
    · rw [q10]
      refine V.tableIn (tgt := 386) dL_law_32 (by decide) (by decide) rfl (by decide) ?_
      exact lw_c10 hst I A hInv L i hL hL2 hi K
    by_cases q11 : (gL G 2).2.2 i &&& nI 31 = nI 11
    · rw [q11]
      refine V.tableIn (tgt := 409) dL_law_32 (by decide) (by decide) rfl (by decide) ?_
      exact lw_c11 hst I A hInv L i hL hL2 hi K
    by_cases q12 : (gL G 2).2.2 i &&& nI 31 = nI 12
    · rw [q12]
      refine V.tableIn (tgt := 452) dL_law_32 (by decide) (by decide) rfl (by decide) ?_
      exact lw_c12 hst I A hInv L i hL hL2 hi K
    by_cases q13 : (gL G 2).2.2 i &&& nI 31 = nI 13
    · rw [q13]
      refine V.tableIn (tgt := 485) dL_law_32 (by decide) (by decide) rfl (by decide) ?_
      exact lw_c13 hst I A hInv L i hL hL2 hi K
    by_cases q14 : (gL G 2).2.2 i &&& nI 31 = nI 14
    · rw [q14]
      refine V.tableIn (tgt := 508) dL_law_32 (by decide) (by decide) rfl (by decide) ?_
      exact lw_c14 hst I A hInv L i hL hL2 hi K
    by_cases q15 : (gL G 2).2.2 i &&& nI 31 = nI 15
    · rw [q15]
      refine V.tableIn (tgt := 531) dL_law_32 (by decide) (by decide) rfl (by decide) ?_
      exact lw_c15 hst I A hInv L i hL hL2 hi K
    by_cases q16 : (gL G 2).2.2 i &&& nI 31 = nI 16
    · rw [q16]
      refine V.tableIn (tgt := 554) dL_law_32 (by decide) (by decide) rfl (by decide) ?_
      exact lw_c16 hst I A hInv L i hL hL2 hi K
    have ho := lw_out (x := (gL G 2).2.2 i &&& nI 31) (fun k hk => by
      rcases (by omega : k = 0 ∨ k = 1 ∨ k = 2 ∨ k = 3 ∨ k = 4 ∨ k = 5 ∨ k = 6 ∨ k = 7 ∨ k = 8 ∨ k = 9 ∨ k = 10 ∨ k = 11 ∨ k = 12 ∨ k = 13 ∨ k = 14 ∨ k = 15 ∨ k = 16) with z | z | z | z | z | z | z | z | z | z | z | z | z | z | z | z | z <;> subst z <;> assumption)
    exact V.tableOut (tgt := 567) dL_law_32 ho (by decide) (K I A hInv)
