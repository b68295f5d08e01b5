theorem V.iret {G : am_G} {Y : am_Y} {d lo mc ms : Nat} {Post : Option Value → List va_E → Prop} {k n pc : Nat} {ls : List (Nat × Value)} {h : List va_E} {x : Int32} (hd : decode Y.2.1 pc = .ok (.ireturn, 1)) (hr : Y.2.2.2 = some .int) (hp : Post (some (.int x)) h) : V G Y (am_R d lo mc ms) (am_Fin G mc ms Post) k n pc ls [.int x] h := by
  intro p l e s m args below meth c H locs cells slots lsr X w S hl hc hn
  have hc' : cells + k ≤ mc := hc
  have hn' : slots + n ≤ ms := hn
  refine W.widen (k := mc) (n := ms) (by omega) (by omega) ?_
  exact W.iret X.exec X.bytes (X.returns.trans hr) (fun t ht hW => ⟨some (.int x), h, rfl, hp, by rw [ht]; exact w, X.K.moved hW, by rw [ht]; exact S.1⟩) S.2.2 hd X.locks
theorem V.zret {G : am_G} {Y : am_Y} {d lo mc ms : Nat} {Post : Option Value → List va_E → Prop} {k n pc : Nat} {ls : List (Nat × Value)} {h : List va_E} {x : Int32} {ty : FieldType} (hd : decode Y.2.1 pc = .ok (.ireturn, 1)) (hr : Y.2.2.2 = some ty) (hx : narrow ty (.int x) = .int x) (hp : Post (some (.int x)) h) : V G Y (am_R d lo mc ms) (am_Fin G mc ms Post) k n pc ls [.int x] h := by
  intro p l e s m args below meth c H locs cells slots lsr X w S hl hc hn
  have hc' : cells + k ≤ mc := hc
  have hn' : slots + n ≤ ms := hn
  refine W.widen (k := mc) (n := ms) (by omega) (by omega) ?_
  exact W.zret X.exec X.bytes (X.returns.trans hr) hx (fun t ht hW => ⟨some (.int x), h, rfl, hp, by rw [ht]; exact w, X.K.moved hW, by rw [ht]; exact S.1⟩) S.2.2 hd X.locks
theorem V.vret {G : am_G} {Y : am_Y} {d lo mc ms : Nat} {Post : Option Value → List va_E → Prop} {k n pc : Nat} {ls : List (Nat × Value)} {h : List va_E} (hd : decode Y.2.1 pc = .ok (.return_, 1)) (hr : Y.2.2.2 = none) (hp : Post none h) : V G Y (am_R d lo mc ms) (am_Fin G mc ms Post) k n pc ls [] h := by
  intro p l e s m args below meth c H locs cells slots lsr X w S hl hc hn
  have hc' : cells + k ≤ mc := hc
  have hn' : slots + n ≤ ms := hn
  refine W.widen (k := mc) (n := ms) (by omega) (by omega) ?_
  exact W.vret X.exec X.bytes (X.returns.trans hr) (fun t ht hW => ⟨none, h, rfl, hp, by rw [ht]; exact w, X.K.moved hW, by rw [ht]; exact S.1⟩) S.2.2 hd X.locks
theorem V.aret {G : am_G} {Y : am_Y} {d lo mc ms : Nat} {Post : Option Value → List va_E → Prop} {k n pc : Nat} {ls : List (Nat × Value)} {h : List va_E} {a : Nat} {rt : FieldType} (hd : decode Y.2.1 pc = .ok (.areturn, 1)) (hr : Y.2.2.2 = some rt) (hrt : (∃ q, rt = .object q) ∨ ∃ t, rt = .array t) (hp : Post (some (.ref a)) h) : V G Y (am_R d lo mc ms) (am_Fin G mc ms Post) k n pc ls [.ref a] h := by
  intro p l e s m args below meth c H locs cells slots lsr X w S hl hc hn
  have hc' : cells + k ≤ mc := hc
  have hn' : slots + n ≤ ms := hn
  refine W.widen (k := mc) (n := ms) (by omega) (by omega) ?_
  exact W.aret X.exec X.bytes (X.returns.trans hr) hrt (Or.inr ⟨_, rfl⟩) (fun t ht hW => ⟨some (.ref a), h, rfl, hp, by rw [ht]; exact w, X.K.moved hW, by rw [ht]; exact S.1⟩) S.2.2 hd X.locks
theorem am_as_args (G : am_G) : ∀ (as : List Value) (i : Nat), (∀ v ∈ as, v.category = 1) → lv_args i (as.map (cV G)) = cL G (am_as i as)
  | [], i, _ => rfl
  | v :: vs, i, hc => by
    have h1 : (cV G v).category = 1 := (cV_cat G v).trans (hc v List.mem_cons_self)
    have h2 := am_as_args G vs (i + 1) (fun u hu => hc u (List.mem_cons_of_mem _ hu))
    simp only [List.map_cons, lv_args, am_as, h1]
    simpa using h2
theorem am_sl_len (G : am_G) : ∀ (as : List Value), (∀ v ∈ as, v.category = 1) → (lg_sl (as.map (cV G))).length = as.length
  | [], _ => rfl
  | v :: vs, hc => by
    have h1 : (cV G v).category = 1 := (cV_cat G v).trans (hc v List.mem_cons_self)
    have h2 := am_sl_len G vs (fun u hu => hc u (List.mem_cons_of_mem _ hu))
    simp only [List.map_cons, lg_sl, List.flatMap_cons, List.length_append, h1] at h2 ⊢
    simp at h2 ⊢
    omega
/-- a contract, by its walk -/
theorem Ct.of {G : am_G} {Y : am_Y} {d lo mc ms : Nat} {as : List Value} {h : List va_E} {Post : Option Value → List va_E → Prop} (hy : plainName Y.1.cls = true) (hl : as.length ≤ Y.2.2.1) (hc : ∀ v ∈ as, v.category = 1) (hv : V G Y (am_R d lo mc ms) (am_Fin G mc ms Post) mc ms 0 (am_as 0 as) [] h) : Ct G Y d lo mc ms as h Post := by
  intro l
  refine Met.ofW (cc := Y.2.1) (maxL := Y.2.2.1) (ret := Y.2.2.2) hy rfl ?_
  intro p e s m args below meth c s₁ B hml hPc
  obtain ⟨rfl, hW, hK⟩ := hPc
  have hts := atoms_spec (ws := am_ws Y) B.pre
  have hown : s.vm.findClass Y.1.cls = some m.cls := findClass_of_methodNamed B.named
  have hnm : meth.name = Y.1.name := (name_of_methodNamed B.named B.method).1
  have hlen := am_sl_len G as hc
  have hl2 := lv_entry (as.map (cV G)) (n := Y.2.2.1) (by rw [hlen]; exact hl)
  rw [am_as_args G as 0 hc] at hl2
  rw [lg_entry_eq]
  generalize (lg_sl (as.map (cV G)) ++ List.replicate (Y.2.2.1 - (lg_sl (as.map (cV G))).length) Slot.unset).toArray = lsr at hl2 ⊢
  have hz := hW.1
  exact hv p l e s m _ below meth c s.heap [] 0 0 lsr ⟨B.exec, B.bytes, hml, B.returns, hown, B.notSynchronized, hnm, fun w hw => hts w (List.mem_cons_of_mem _ hw), hK, hW.2.1, by omega⟩ hW va_S.rf hl2 (by simp [am_R]) (by simp [am_R])
theorem am_good_in {Y : am_Y} (hY : Cond.code Y.1 Y.2.1 Y.2.2.1 Y.2.2.2 ∈ am_tbl) : GoodIn am_tbl (am_ws Y) := by
  intro w hw
  have h1 : w ∈ am_tbl := by
    rcases List.mem_cons.mp hw with rfl | h
    · exact hY
    · exact h
  exact ⟨h1, good_of_word (List.all_eq_true.mp am_good w h1)⟩
/-- behind a call -/
theorem am_call {p : Program} {l : Launch} {e : Env} {R : Room} {s : State} {m : MethodId} {args : Array Value} {below : List Frame} {meth : Method} {c : Code} {H : Heap} {locs : List Loc} {cells slots : Nat} {Q : State → Prop} {G : am_G} {Y : am_Y} {mc ms pc : Nat} {lsr : Array Slot} {st0 rest : List Value} {a : Array Value} {Post : Option Value → List va_E → Prop} (X : am_Fix G Y p s m args meth c) (S : va_S (gA G) s.heap H locs)
    (hr : va_Run p l e R s m args below meth c H locs cells slots mc ms (F0 m pc lsr st0) rest (am_Q G Post a) (gA G))
    (kk : ∀ (r : Option Value) (h' : List va_E) (H1 : Heap) (locs1 : List Loc), Post r h' → am_W G h' H1 → va_S (gA G) s.heap H1 locs1 → W p l e R s m args below meth c H1 locs1 (cells + mc) (slots + ms) Q (F0 m (pc + 3) lsr ((r.map (cV G)).toList ++ rest))) : W p l e R s m args below meth c H locs cells slots Q (F0 m pc lsr st0) := by
  intro T hT X0
  obtain ⟨v, st₀, t, T', L, h0, X', hL, e1, e2, ⟨r, h', hv, hp, hw, hk, hz⟩, stp⟩ := hr T hT X0
  cases hv
  rw [h0] at hz
  have hB := X.big
  obtain ⟨t2, a1, b1⟩ := kk r h' t.heap (locs ++ L) hp hw ⟨Nat.le_trans S.1 hz, fun q h1 h2 => by rw [hw.2.1 q (Nat.not_le.mp h2), X.low q (Nat.not_le.mp h2)], fun q hq => by
      rcases List.mem_append.mp hq with z | z
      · exact S.2.2 q z
      · exact hL q z⟩ T' e1 X'
  exact ⟨t2, stp t2 a1, b1⟩
theorem am_pre {s : State} {H : Heap} {G : am_G} {h : List va_E} {As : List Value} (hW : am_W G h H) (hK : am_K G s) : PreS s H (fun v U => v = (As.map (cV G)).toArray ∧ am_W G h U.heap ∧ am_K G U) (As.map (cV G)) :=
  ⟨fun a U g mk q => ⟨q.1, q.2.1, am_K.same (u := U) (U := U.calling g mk a) rfl q.2.2⟩, fun U hU hw => ⟨rfl, by rw [hU]; exact hW, hK.moved hw⟩⟩
/-- a call site: what links it -/
def am_site (own : String) (idx : Nat) (Y : am_Y) (n : Nat) : Prop := Cond.methodLink own idx Y.1 ∈ am_tbl ∧ Cond.initialized Y.1.cls ∈ am_tbl ∧ Cond.code Y.1 Y.2.1 Y.2.2.1 Y.2.2.2 ∈ am_tbl ∧ Y.1.cls ≠ "java/lang/invoke/MethodHandle" ∧ Y.1.cls ≠ "java/lang/invoke/VarHandle" ∧ (parseMethodDescriptor Y.1.desc).map (fun d => d.parameters.length) = some n
def am_siteN (own : String) (idx : Nat) (Y : am_Y) (n : Nat) (host : String) : Prop := Cond.methodLinkNest own idx Y.1 host ∈ am_nst ∧ Cond.initialized Y.1.cls ∈ am_tbl ∧ Cond.code Y.1 Y.2.1 Y.2.2.1 Y.2.2.2 ∈ am_tbl ∧ Y.1.cls ≠ "java/lang/invoke/MethodHandle" ∧ Y.1.cls ≠ "java/lang/invoke/VarHandle" ∧ (parseMethodDescriptor Y.1.desc).map (fun d => d.parameters.length) = some n
theorem am_site.B {own : String} {idx nn : Nat} {Y : am_Y} {R : Room} {s : State} {args : Array Value} {d lo mc ms : Nat} (h : am_site own idx Y nn) (hts : ∀ w ∈ am_tbl, w.before args s = true) (hR : d + 1 ≤ R.frames ∧ 8 + (Y.2.2.1 + 11) + lo ≤ R.locals) : CallB R s args own idx Y.1 Y.2.1 Y.2.2.1 Y.2.2.2 (am_ws Y) (am_R d lo mc ms) mc ms nn := callB_of nn hts (am_good_in h.2.2.1) rfl rfl rfl (hts _ h.2.1) (hts _ h.1) h.2.2.2 hR
theorem am_siteN.B {own host : String} {idx nn : Nat} {Y : am_Y} {R : Room} {s : State} {args : Array Value} {d lo mc ms : Nat} (h : am_siteN own idx Y nn host) (hts : ∀ w ∈ am_tbl, w.before args s = true) (hnw : ∀ w ∈ am_nst, va_Nw w s) (hR : d + 1 ≤ R.frames ∧ 8 + (Y.2.2.1 + 11) + lo ≤ R.locals) : va_CN R s args own idx Y.1 host Y.2.1 Y.2.2.1 Y.2.2.2 (am_ws Y) (am_R d lo mc ms) mc ms nn := va_cnB nn hts (am_good_in h.2.2.1) rfl rfl rfl (hnw _ h.1) (hts _ h.2.1) h.2.2.2 hR
theorem am_toList {G : am_G} (r : Option Value) : r.toList.map (cV G) = (r.map (cV G)).toList := by cases r <;> rfl
theorem V.callS {G : am_G} {Y : am_Y} {R : Room} {Fn : Array Value → State → List Frame → State → Prop} {k n pc : Nat} {ls : List (Nat × Value)} {st : List Value} {h : List va_E} {Y' : am_Y} {d' lo' mc' ms' idx : Nat} {As st0 : List Value} {Post' : Option Value → List va_E → Prop}  (hd : decode Y.2.1 pc = .ok (.invokestatic idx, 3)) (hsite : am_site Y.1.cls idx Y' As.length) (hstat : Cond.static Y'.1 ∈ am_tbl) (hC : Ct G Y' d' lo' mc' ms' As h Post') (hR : d' + 1 ≤ R.frames ∧ 8 + (Y'.2.2.1 + 11) + lo' ≤ R.locals) (hmc : mc' ≤ k) (hms : ms' ≤ n) (hst8 : (st.map fun v => v.category).sum ≤ 8) (hs0 : st0 = (As.reverse ++ st)) (kk : ∀ (r : Option Value) (h' : List va_E), Post' r h' → V G Y R Fn (k - mc') (n - ms') (pc + 3) ls (r.toList ++ st) h') : V G Y R Fn k n pc ls st0 h := by
  intro p l e s m args below meth c H locs cells slots lsr X w S hl hc hn
  subst hs0
  refine am_call X S (va_runS (As := As.map (cV G)) (rest := st.map (cV G)) ⟨X.exec, X.bytes, X.maxL, X.own, X.hts⟩ (hC l) ⟨hsite.B X.hts hR, X.hts _ hstat⟩ (am_pre w X.K) rfl (by simp) hl.1 (by simp [List.map_reverse]) (by show 2 * 0 + ((st.map (cV G)).map fun v => v.category).sum ≤ 8; rw [List.map_map]; simpa [Function.comp_def, cV_cat] using hst8) hd ⟨by omega, by omega⟩) (fun r h' H1 locs1 hp hw hs => ?_)
  have hq := kk r h' hp p l e s m args below meth c H1 locs1 (cells + mc') (slots + ms') lsr X hw hs hl (by omega) (by omega)
  simpa only [List.map_append, am_toList] using hq
theorem V.callSN {G : am_G} {Y : am_Y} {R : Room} {Fn : Array Value → State → List Frame → State → Prop} {k n pc : Nat} {ls : List (Nat × Value)} {st : List Value} {h : List va_E} {Y' : am_Y} {d' lo' mc' ms' idx : Nat} {As st0 : List Value} {Post' : Option Value → List va_E → Prop} {host : String} (hd : decode Y.2.1 pc = .ok (.invokestatic idx, 3)) (hsite : am_siteN Y.1.cls idx Y' As.length host) (hstat : Cond.static Y'.1 ∈ am_tbl) (hC : Ct G Y' d' lo' mc' ms' As h Post') (hR : d' + 1 ≤ R.frames ∧ 8 + (Y'.2.2.1 + 11) + lo' ≤ R.locals) (hmc : mc' ≤ k) (hms : ms' ≤ n) (hst8 : (st.map fun v => v.category).sum ≤ 8) (hs0 : st0 = (As.reverse ++ st)) (kk : ∀ (r : Option Value) (h' : List va_E), Post' r h' → V G Y R Fn (k - mc') (n - ms') (pc + 3) ls (r.toList ++ st) h') : V G Y R Fn k n pc ls st0 h := by
  intro p l e s m args below meth c H locs cells slots lsr X w S hl hc hn
  subst hs0
  refine am_call X S (va_runSN (As := As.map (cV G)) (rest := st.map (cV G)) ⟨X.exec, X.bytes, X.maxL, X.own, X.hts⟩ (hC l) ⟨hsite.B X.hts X.K.2.2.2 hR, X.hts _ hstat, trivial⟩ (am_pre w X.K) rfl (by simp) hl.1 (by simp [List.map_reverse]) (by show 2 * 0 + ((st.map (cV G)).map fun v => v.category).sum ≤ 8; rw [List.map_map]; simpa [Function.comp_def, cV_cat] using hst8) hd ⟨by omega, by omega⟩) (fun r h' H1 locs1 hp hw hs => ?_)
  have hq := kk r h' hp p l e s m args below meth c H1 locs1 (cells + mc') (slots + ms') lsr X hw hs hl (by omega) (by omega)
  simpa only [List.map_append, am_toList] using hq
theorem V.callV {G : am_G} {Y : am_Y} {R : Room} {Fn : Array Value → State → List Frame → State → Prop} {k n pc : Nat} {ls : List (Nat × Value)} {st : List Value} {h : List va_E} {Y' : am_Y} {d' lo' mc' ms' idx : Nat} {As st0 : List Value} {Post' : Option Value → List va_E → Prop} {a ci N : Nat} {T : u_T} {fs : List Value} (hd : decode Y.2.1 pc = .ok (.invokevirtual idx, 3)) (hsite : am_site Y.1.cls idx Y' As.length) (hinst : Cond.instanceMethod Y'.1 ∈ am_tbl) (hsel : Cond.selects Y'.1.cls Y'.1 Y'.1 ∈ am_tbl) (hcl : am_cl[ci]? = some (Y'.1.cls, T, N)) (he : h[a]? = some (.inr (ci, fs))) (hC : Ct G Y' d' lo' mc' ms' (.ref a :: As) h Post') (hR : d' + 1 ≤ R.frames ∧ 8 + (Y'.2.2.1 + 11) + lo' ≤ R.locals) (hmc : mc' ≤ k) (hms : ms' ≤ n) (hst8 : (st.map fun v => v.category).sum ≤ 8) (hs0 : st0 = (As.reverse ++ .ref a :: st)) (kk : ∀ (r : Option Value) (h' : List va_E), Post' r h' → V G Y R Fn (k - mc') (n - ms') (pc + 3) ls (r.toList ++ st) h') : V G Y R Fn k n pc ls st0 h := by
  intro p l e s m args below meth c H locs cells slots lsr X w S hl hc hn
  subst hs0
  refine am_call X S (va_runV (As := As.map (cV G)) (rest := st.map (cV G)) (b := gB G + a) ⟨X.exec, X.bytes, X.maxL, X.own, X.hts⟩ (hC l) ⟨hsite.B X.hts hR, X.hts _ hinst, X.hts _ hsel⟩ ⟨(am_pre (As := .ref a :: As) w X.K).1, va_recv (q := (Y'.1.cls, T, N)) X.K.1 w.P hcl (cW_get he), (am_pre (As := .ref a :: As) w X.K).2⟩ rfl (by simp) hl.1 (by simp [List.map_reverse]; rfl) (by show 2 * 0 + ((st.map (cV G)).map fun v => v.category).sum ≤ 8; rw [List.map_map]; simpa [Function.comp_def, cV_cat] using hst8) hd ⟨by omega, by omega⟩) (fun r h' H1 locs1 hp hw hs => ?_)
  have hq := kk r h' hp p l e s m args below meth c H1 locs1 (cells + mc') (slots + ms') lsr X hw hs hl (by omega) (by omega)
  simpa only [List.map_append, am_toList] using hq
theorem V.callVN {G : am_G} {Y : am_Y} {R : Room} {Fn : Array Value → State → List Frame → State → Prop} {k n pc : Nat} {ls : List (Nat × Value)} {st : List Value} {h : List va_E} {Y' : am_Y} {d' lo' mc' ms' idx : Nat} {As st0 : List Value} {Post' : Option Value → List va_E → Prop} {host : String} {a ci N : Nat} {T : u_T} {fs : List Value} (hd : decode Y.2.1 pc = .ok (.invokevirtual idx, 3)) (hsite : am_siteN Y.1.cls idx Y' As.length host) (hinst : Cond.instanceMethod Y'.1 ∈ am_tbl) (hsel : Cond.selects Y'.1.cls Y'.1 Y'.1 ∈ am_tbl) (hcl : am_cl[ci]? = some (Y'.1.cls, T, N)) (he : h[a]? = some (.inr (ci, fs))) (hC : Ct G Y' d' lo' mc' ms' (.ref a :: As) h Post') (hR : d' + 1 ≤ R.frames ∧ 8 + (Y'.2.2.1 + 11) + lo' ≤ R.locals) (hmc : mc' ≤ k) (hms : ms' ≤ n) (hst8 : (st.map fun v => v.category).sum ≤ 8) (hs0 : st0 = (As.reverse ++ .ref a :: st)) (kk : ∀ (r : Option Value) (h' : List va_E), Post' r h' → V G Y R Fn (k - mc') (n - ms') (pc + 3) ls (r.toList ++ st) h') : V G Y R Fn k n pc ls st0 h := by
  intro p l e s m args below meth c H locs cells slots lsr X w S hl hc hn
  subst hs0
  refine am_call X S (va_runVN (As := As.map (cV G)) (rest := st.map (cV G)) (b := gB G + a) ⟨X.exec, X.bytes, X.maxL, X.own, X.hts⟩ (hC l) ⟨hsite.B X.hts X.K.2.2.2 hR, X.hts _ hinst, X.hts _ hsel⟩ ⟨(am_pre (As := .ref a :: As) w X.K).1, va_recv (q := (Y'.1.cls, T, N)) X.K.1 w.P hcl (cW_get he), (am_pre (As := .ref a :: As) w X.K).2⟩ rfl (by simp) hl.1 (by simp [List.map_reverse]; rfl) (by show 2 * 0 + ((st.map (cV G)).map fun v => v.category).sum ≤ 8; rw [List.map_map]; simpa [Function.comp_def, cV_cat] using hst8) hd ⟨by omega, by omega⟩) (fun r h' H1 locs1 hp hw hs => ?_)
  have hq := kk r h' hp p l e s m args below meth c H1 locs1 (cells + mc') (slots + ms') lsr X hw hs hl (by omega) (by omega)
  simpa only [List.map_append, am_toList] using hq
theorem V.callI {G : am_G} {Y : am_Y} {R : Room} {Fn : Array Value → State → List Frame → State → Prop} {k n pc : Nat} {ls : List (Nat × Value)} {st : List Value} {h : List va_E} {Y' : am_Y} {d' lo' mc' ms' idx : Nat} {As st0 : List Value} {Post' : Option Value → List va_E → Prop} {a : Nat} (hd : decode Y.2.1 pc = .ok (.invokespecial idx, 3)) (hsite : am_site Y.1.cls idx Y' As.length) (hret : Y'.2.2.2 = none) (hin : Y'.1.name = "<init>") (hinst : Cond.instanceMethod Y'.1 ∈ am_tbl) (hC : Ct G Y' d' lo' mc' ms' (.ref a :: As) h Post') (hR : d' + 1 ≤ R.frames ∧ 8 + (Y'.2.2.1 + 11) + lo' ≤ R.locals) (hmc : mc' ≤ k) (hms : ms' ≤ n) (hst8 : (st.map fun v => v.category).sum ≤ 8) (hs0 : st0 = (As.reverse ++ .ref a :: st)) (kk : ∀ (r : Option Value) (h' : List va_E), Post' r h' → V G Y R Fn (k - mc') (n - ms') (pc + 3) ls (r.toList ++ st) h') : V G Y R Fn k n pc ls st0 h := by
  intro p l e s m args below meth c H locs cells slots lsr X w S hl hc hn
  subst hs0
  refine am_call X S (va_runI (As := As.map (cV G)) (rest := st.map (cV G)) (b := gB G + a) ⟨X.exec, X.bytes, X.maxL, X.own, X.hts⟩ (hC l) ⟨hret ▸ hsite.B X.hts hR, hin, X.hts _ hinst⟩ (am_pre (As := .ref a :: As) w X.K) rfl (by simp) hl.1 (by simp [List.map_reverse]; rfl) (by show 2 * 0 + ((st.map (cV G)).map fun v => v.category).sum ≤ 8; rw [List.map_map]; simpa [Function.comp_def, cV_cat] using hst8) hd ⟨by omega, by omega⟩) (fun r h' H1 locs1 hp hw hs => ?_)
  have hq := kk r h' hp p l e s m args below meth c H1 locs1 (cells + mc') (slots + ms') lsr X hw hs hl (by omega) (by omega)
  simpa only [List.map_append, am_toList] using hq
theorem V.callIN {G : am_G} {Y : am_Y} {R : Room} {Fn : Array Value → State → List Frame → State → Prop} {k n pc : Nat} {ls : List (Nat × Value)} {st : List Value} {h : List va_E} {Y' : am_Y} {d' lo' mc' ms' idx : Nat} {As st0 : List Value} {Post' : Option Value → List va_E → Prop} {host : String} {a : Nat} (hd : decode Y.2.1 pc = .ok (.invokespecial idx, 3)) (hsite : am_siteN Y.1.cls idx Y' As.length host) (hret : Y'.2.2.2 = none) (hin : Y'.1.name = "<init>") (hinst : Cond.instanceMethod Y'.1 ∈ am_tbl) (hC : Ct G Y' d' lo' mc' ms' (.ref a :: As) h Post') (hR : d' + 1 ≤ R.frames ∧ 8 + (Y'.2.2.1 + 11) + lo' ≤ R.locals) (hmc : mc' ≤ k) (hms : ms' ≤ n) (hst8 : (st.map fun v => v.category).sum ≤ 8) (hs0 : st0 = (As.reverse ++ .ref a :: st)) (kk : ∀ (r : Option Value) (h' : List va_E), Post' r h' → V G Y R Fn (k - mc') (n - ms') (pc + 3) ls (r.toList ++ st) h') : V G Y R Fn k n pc ls st0 h := by
  intro p l e s m args below meth c H locs cells slots lsr X w S hl hc hn
  subst hs0
  refine am_call X S (va_runIN (As := As.map (cV G)) (rest := st.map (cV G)) (b := gB G + a) ⟨X.exec, X.bytes, X.maxL, X.own, X.hts⟩ (hC l) ⟨hret ▸ hsite.B X.hts X.K.2.2.2 hR, hin, X.hts _ hinst⟩ (am_pre (As := .ref a :: As) w X.K) rfl (by simp) hl.1 (by simp [List.map_reverse]; rfl) (by show 2 * 0 + ((st.map (cV G)).map fun v => v.category).sum ≤ 8; rw [List.map_map]; simpa [Function.comp_def, cV_cat] using hst8) hd ⟨by omega, by omega⟩) (fun r h' H1 locs1 hp hw hs => ?_)
  have hq := kk r h' hp p l e s m args below meth c H1 locs1 (cells + mc') (slots + ms') lsr X hw hs hl (by omega) (by omega)
  simpa only [List.map_append, am_toList] using hq
theorem V.objInit {G : am_G} {Y : am_Y} {R : Room} {Fn : Array Value → State → List Frame → State → Prop} {k n pc : Nat} {ls : List (Nat × Value)} {st : List Value} {h : List va_E} {idx a : Nat} (hd : decode Y.2.1 pc = .ok (.invokespecial idx, 3)) (hlk : Cond.methodLink Y.1.cls idx Lib.objectInit ∈ am_tbl) (hin : Cond.instanceMethod Lib.objectInit ∈ am_tbl) (hco : Cond.code Lib.objectInit ⟨#[0xb1]⟩ 1 none ∈ am_tbl) (hR : 1 ≤ R.frames) (hR2 : (st.map fun v => v.category).sum + 12 ≤ R.locals) (kk : V G Y R Fn k n (pc + 3) ls st h) : V G Y R Fn k n pc ls (.ref a :: st) h := by
  intro p l e s m args below meth c H locs cells slots lsr X w S hl hc hn
  refine W.objInit X.exec X.bytes X.own (X.hts _ hlk) (X.hts _ hin) (X.hts _ hco) rfl (hl.1.trans X.maxL.symm) rfl hd hR ?_ ?_
  · show 2 * 0 + ((st.map (cV G)).map fun v => v.category).sum + 12 ≤ R.locals
    rw [List.map_map]
    simpa [Function.comp_def, cV_cat] using hR2
  · exact kk p l e s m args below meth c H locs cells slots lsr X w S hl hc hn
/-- what may be made by new -/
def am_nw (own : String) (idx ci : Nat) (fs : List Value) : Prop := ∃ (C : String) (T : u_T) (N : Nat) (t0 : Nat → FieldType), am_cl[ci]? = some (C, T, N) ∧ fs.length = N ∧ Cond.classLink own idx C ∈ am_tbl ∧ Cond.instantiable C N ∈ am_tbl ∧ Cond.initialized C ∈ am_tbl ∧ (∀ w ∈ u_ws C T N, w ∈ am_tbl) ∧ (∀ k, k < N → parseFieldDescriptor (T k).2.2.1 = some (t0 k)) ∧ (∀ k, k < N → fs[k]? = some (defaultValue (t0 k))) ∧ (∀ v ∈ fs, v = .null ∨ ∃ x, v = .int x)
theorem V.new {G : am_G} {Y : am_Y} {R : Room} {Fn : Array Value → State → List Frame → State → Prop} {k n pc : Nat} {ls : List (Nat × Value)} {st : List Value} {h : List va_E} {idx ci : Nat} {fs : List Value} {h' : List va_E} {k' n' : Nat} (hd : decode Y.2.1 pc = .ok (.new idx, 3)) (hw : am_nw Y.1.cls idx ci fs) (hk : k' + 1 = k) (hn' : n' + fs.length = n) (hh : h ++ [.inr (ci, fs)] = h') (kk : V G Y R Fn k' n' (pc + 3) ls (.ref h.length :: st) h') : V G Y R Fn k n pc ls st h := by
  intro p l e s m args below meth c H locs cells slots lsr X w S hl hc hn
  subst hh
  obtain ⟨C, T, N, t0, h1, h2, h3, h4, h5, h6, h7, h8, h9⟩ := hw
  have hK := X.K.1
  have hKn := hK.1 ci _ h1
  have hz := w.1
  have hmap : fs.map (cV G) = fs := by
    conv => rhs; rw [← List.map_id fs]
    refine List.map_congr_left fun v hv => ?_
    rcases h9 v hv with rfl | ⟨x, rfl⟩ <;> rfl
  refine W.newcK (h := gB G + h.length) X.exec X.bytes X.own (X.hts _ h3) (X.hts _ h4) (X.hts _ h5) rfl hd (by omega) (by omega) hKn.2.1 hz fun H1 kC hkC e1 z1 o1 => ?_
  refine kk p l e s m args below meth c H1 locs (cells + 1) (slots + N) lsr X (w.push ?_ (by omega) (fun q hq => o1 q (by omega))) ⟨by have := S.1; omega, fun q q1 q2 => by rw [o1 q (by have : q < gB G := Nat.not_le.mp q2; omega)]; exact S.2.1 q q1 q2, S.2.2⟩ hl (by omega) (by omega)
  refine ⟨_, h1, (u_born t0 X.hts h6 hKn hkC e1 h7).to (fun j hj => ?_)⟩
  rw [hmap]
  simp [vp_V, List.getD, h8 j hj]
theorem V.newa {G : am_G} {Y : am_Y} {R : Room} {Fn : Array Value → State → List Frame → State → Prop} {k n pc : Nat} {ls : List (Nat × Value)} {st : List Value} {h : List va_E} {atype : ArrayType} {q N : Nat} {i : Int32} {h' : List va_E} {k' n' : Nat} (hd : decode Y.2.1 pc = .ok (.newarray atype, 2)) (ht : (q = 0 ∧ atype = .int) ∨ (q = 1 ∧ atype = .boolean)) (hw : Cond.arrayClass (newarray.typeOf atype) ∈ am_tbl) (hi : ¬ i < 0) (hN : i.toNatClampNeg = N) (hN2 : N ≤ 1000000) (hk : k' + 1 = k) (hn' : n' + N = n) (hh : h ++ [.inl (q, N, .inl (fun _ => 0))] = h') (kk : V G Y R Fn k' n' (pc + 2) ls (.ref h.length :: st) h') : V G Y R Fn k n pc ls (.int i :: st) h := by
  intro p l e s m args below meth c H locs cells slots lsr X w S hl hc hn
  subst hh
  have hK := X.K.1
  have hz := w.1
  rcases ht with ⟨rfl, rfl⟩ | ⟨rfl, rfl⟩
  · refine va_newaK (h := gB G + h.length) X.exec X.bytes (X.hts _ hw) rfl hd rfl hi hN (by show N * 4 ≤ _; omega) (by omega) (by omega) hz fun H1 cA e1 z1 o1 hAr hNm => ?_
    have hcA : cA = gT G 0 := Option.some.inj (hNm.symm.trans ((hK.2 0 _ rfl).2))
    subst hcA
    exact kk p l e s m args below meth c H1 locs (cells + 1) (slots + N) lsr X (w.push e1 (by omega) (fun q hq => o1 q (by omega))) ⟨by have := S.1; omega, fun q q1 q2 => by rw [o1 q (by have : q < gB G := Nat.not_le.mp q2; omega)]; exact S.2.1 q q1 q2, S.2.2⟩ hl (by omega) (by omega)
  · refine va_newaK (h := gB G + h.length) X.exec X.bytes (X.hts _ hw) rfl hd rfl hi hN (by show N * 1 ≤ _; omega) (by omega) (by omega) hz fun H1 cA e1 z1 o1 hAr hNm => ?_
    have hcA : cA = gT G 1 := Option.some.inj (hNm.symm.trans ((hK.2 1 _ rfl).2))
    subst hcA
    exact kk p l e s m args below meth c H1 locs (cells + 1) (slots + N) lsr X (w.push e1 (by omega) (fun q hq => o1 q (by omega))) ⟨by have := S.1; omega, fun q q1 q2 => by rw [o1 q (by have : q < gB G := Nat.not_le.mp q2; omega)]; exact S.2.1 q q1 q2, S.2.2⟩ hl (by omega) (by omega)
theorem V.ialdN {G : am_G} {Y : am_Y} {R : Room} {Fn : Array Value → State → List Frame → State → Prop} {k n pc : Nat} {ls : List (Nat × Value)} {st : List Value} {h : List va_E} {a N j : Nat} {f : Nat → Int32} {v : Int32} (hd : decode Y.2.1 pc = .ok (.iaload, 1)) (he : h[a]? = some (.inl (0, N, .inl f))) (hj : j < N) (hN : N < 2 ^ 31) (hv : f j = v) (kk : V G Y R Fn k n (pc + 1) ls (.int v :: st) h) : V G Y R Fn k n pc ls (.int (nI j) :: .ref a :: st) h := V.iald hd he (vp_in_nI hj hN) (by rw [nI_clamp (by omega)]; exact hv) kk
theorem V.zaldN {G : am_G} {Y : am_Y} {R : Room} {Fn : Array Value → State → List Frame → State → Prop} {k n pc : Nat} {ls : List (Nat × Value)} {st : List Value} {h : List va_E} {a N j : Nat} {f : Nat → Int32} {v : Int32} (hd : decode Y.2.1 pc = .ok (.baload, 1)) (he : h[a]? = some (.inl (1, N, .inl f))) (hj : j < N) (hN : N < 2 ^ 31) (hv : f j = v) (kk : V G Y R Fn k n (pc + 1) ls (.int v :: st) h) : V G Y R Fn k n pc ls (.int (nI j) :: .ref a :: st) h := V.zald hd he (vp_in_nI hj hN) (by rw [nI_clamp (by omega)]; exact hv) kk
theorem V.iastN {G : am_G} {Y : am_Y} {R : Room} {Fn : Array Value → State → List Frame → State → Prop} {k n pc : Nat} {ls : List (Nat × Value)} {st : List Value} {h : List va_E} {a N j : Nat} {f : Nat → Int32} {x : Int32} {h' : List va_E} (hd : decode Y.2.1 pc = .ok (.iastore, 1)) (he : h[a]? = some (.inl (0, N, .inl f))) (hj : j < N) (hN : N < 2 ^ 31) (hh : h.set a (.inl (0, N, .inl (upd f j x))) = h') (kk : V G Y R Fn k n (pc + 1) ls st h') : V G Y R Fn k n pc ls (.int x :: .int (nI j) :: .ref a :: st) h := V.iast hd he (vp_in_nI hj hN) (by rw [nI_clamp (by omega)]; exact hh) kk
theorem V.zastN {G : am_G} {Y : am_Y} {R : Room} {Fn : Array Value → State → List Frame → State → Prop} {k n pc : Nat} {ls : List (Nat × Value)} {st : List Value} {h : List va_E} {a N j : Nat} {f : Nat → Int32} {x : Int32} {h' : List va_E} (hd : decode Y.2.1 pc = .ok (.bastore, 1)) (he : h[a]? = some (.inl (1, N, .inl f))) (hj : j < N) (hN : N < 2 ^ 31) (hx : narrow .boolean (.int x) = .int x) (hh : h.set a (.inl (1, N, .inl (upd f j x))) = h') (kk : V G Y R Fn k n (pc + 1) ls st h') : V G Y R Fn k n pc ls (.int x :: .int (nI j) :: .ref a :: st) h := V.zast hd he (vp_in_nI hj hN) hx (by rw [nI_clamp (by omega)]; exact hh) kk
theorem V.iincN {G : am_G} {Y : am_Y} {R : Room} {Fn : Array Value → State → List Frame → State → Prop} {k n pc : Nat} {ls : List (Nat × Value)} {st : List Value} {h : List va_E} {i j x : Nat} {ls' : List (Nat × Value)} (hd : decode Y.2.1 pc = .ok (.iinc i 1, 3)) (hj : ls[j]? = some (i, .int (nI x))) (hi : i < Y.2.2.1) (hls : am_st i (.int (nI (x + 1))) ls = ls') (kk : V G Y R Fn k n (pc + 3) ls' st h) : V G Y R Fn k n pc ls st h := V.iinc hd hj (nI_1 x) hi hls kk
theorem V.ideclN {G : am_G} {Y : am_Y} {R : Room} {Fn : Array Value → State → List Frame → State → Prop} {k n pc : Nat} {ls : List (Nat × Value)} {st : List Value} {h : List va_E} {i j x : Nat} {ls' : List (Nat × Value)} (hd : decode Y.2.1 pc = .ok (.iinc i (-1), 3)) (hj : ls[j]? = some (i, .int (nI (x + 1)))) (hi : i < Y.2.2.1) (hls : am_st i (.int (nI x)) ls = ls') (kk : V G Y R Fn k n (pc + 3) ls' st h) : V G Y R Fn k n pc ls st h := V.iinc hd hj (pk_m1 x) hi hls kk
theorem V.iaddN {G : am_G} {Y : am_Y} {R : Room} {Fn : Array Value → State → List Frame → State → Prop} {k n pc : Nat} {ls : List (Nat × Value)} {st : List Value} {h : List va_E} {x y : Nat} (hd : decode Y.2.1 pc = .ok (.iadd, 1)) (kk : V G Y R Fn k n (pc + 1) ls (.int (nI (x + y)) :: st) h) : V G Y R Fn k n pc ls (.int (nI y) :: .int (nI x) :: st) h := V.iadd hd (by rw [nI_add]; exact kk)
theorem V.isubN {G : am_G} {Y : am_Y} {R : Room} {Fn : Array Value → State → List Frame → State → Prop} {k n pc : Nat} {ls : List (Nat × Value)} {st : List Value} {h : List va_E} {x y : Nat} (hd : decode Y.2.1 pc = .ok (.isub, 1)) (hle : y ≤ x) (kk : V G Y R Fn k n (pc + 1) ls (.int (nI (x - y)) :: st) h) : V G Y R Fn k n pc ls (.int (nI y) :: .int (nI x) :: st) h := V.isub hd (by rw [pk_sub hle]; exact kk)
theorem V.imulN {G : am_G} {Y : am_Y} {R : Room} {Fn : Array Value → State → List Frame → State → Prop} {k n pc : Nat} {ls : List (Nat × Value)} {st : List Value} {h : List va_E} {x y : Nat} (hd : decode Y.2.1 pc = .ok (.imul, 1)) (kk : V G Y R Fn k n (pc + 1) ls (.int (nI (x * y)) :: st) h) : V G Y R Fn k n pc ls (.int (nI y) :: .int (nI x) :: st) h := V.imul hd (by rw [pk_mul]; exact kk)
theorem V.icmp_ltN {G : am_G} {Y : am_Y} {R : Room} {Fn : Array Value → State → List Frame → State → Prop} {k n pc : Nat} {ls : List (Nat × Value)} {st : List Value} {h : List va_E} {x y : Nat} {off : Int} {tgt : Nat} (hd : decode Y.2.1 pc = .ok (.if_icmp .lt off, 3)) (ht : (pc : Int) + off = (tgt : Int)) (hx : x < 2 ^ 31) (hy : y < 2 ^ 31) (kt : x < y → V G Y R Fn k n tgt ls st h) (kf : ¬ x < y → V G Y R Fn k n (pc + 3) ls st h) : V G Y R Fn k n pc ls (.int (nI y) :: .int (nI x) :: st) h := V.icmp_lt hd ht (fun z => kt ((nI_ltI hx hy).mp z)) (fun z => kf (fun q => z ((nI_ltI hx hy).mpr q)))
theorem V.icmp_geN {G : am_G} {Y : am_Y} {R : Room} {Fn : Array Value → State → List Frame → State → Prop} {k n pc : Nat} {ls : List (Nat × Value)} {st : List Value} {h : List va_E} {x y : Nat} {off : Int} {tgt : Nat} (hd : decode Y.2.1 pc = .ok (.if_icmp .ge off, 3)) (ht : (pc : Int) + off = (tgt : Int)) (hx : x < 2 ^ 31) (hy : y < 2 ^ 31) (kt : y ≤ x → V G Y R Fn k n tgt ls st h) (kf : ¬ y ≤ x → V G Y R Fn k n (pc + 3) ls st h) : V G Y R Fn k n pc ls (.int (nI y) :: .int (nI x) :: st) h := V.icmp_ge hd ht (fun z => kt ((nI_leI hy hx).mp z)) (fun z => kf (fun q => z ((nI_leI hy hx).mpr q)))
theorem V.icmp_gtN {G : am_G} {Y : am_Y} {R : Room} {Fn : Array Value → State → List Frame → State → Prop} {k n pc : Nat} {ls : List (Nat × Value)} {st : List Value} {h : List va_E} {x y : Nat} {off : Int} {tgt : Nat} (hd : decode Y.2.1 pc = .ok (.if_icmp .gt off, 3)) (ht : (pc : Int) + off = (tgt : Int)) (hx : x < 2 ^ 31) (hy : y < 2 ^ 31) (kt : y < x → V G Y R Fn k n tgt ls st h) (kf : ¬ y < x → V G Y R Fn k n (pc + 3) ls st h) : V G Y R Fn k n pc ls (.int (nI y) :: .int (nI x) :: st) h := V.icmp_gt hd ht (fun z => kt ((nI_ltI hy hx).mp z)) (fun z => kf (fun q => z ((nI_ltI hy hx).mpr q)))
theorem V.icmp_leN {G : am_G} {Y : am_Y} {R : Room} {Fn : Array Value → State → List Frame → State → Prop} {k n pc : Nat} {ls : List (Nat × Value)} {st : List Value} {h : List va_E} {x y : Nat} {off : Int} {tgt : Nat} (hd : decode Y.2.1 pc = .ok (.if_icmp .le off, 3)) (ht : (pc : Int) + off = (tgt : Int)) (hx : x < 2 ^ 31) (hy : y < 2 ^ 31) (kt : x ≤ y → V G Y R Fn k n tgt ls st h) (kf : ¬ x ≤ y → V G Y R Fn k n (pc + 3) ls st h) : V G Y R Fn k n pc ls (.int (nI y) :: .int (nI x) :: st) h := V.icmp_le hd ht (fun z => kt ((nI_leI hx hy).mp z)) (fun z => kf (fun q => z ((nI_leI hx hy).mpr q)))
theorem V.icmp_eqN {G : am_G} {Y : am_Y} {R : Room} {Fn : Array Value → State → List Frame → State → Prop} {k n pc : Nat} {ls : List (Nat × Value)} {st : List Value} {h : List va_E} {x y : Nat} {off : Int} {tgt : Nat} (hd : decode Y.2.1 pc = .ok (.if_icmp .eq off, 3)) (ht : (pc : Int) + off = (tgt : Int)) (hx : x < 2 ^ 31) (hy : y < 2 ^ 31) (kt : x = y → V G Y R Fn k n tgt ls st h) (kf : ¬ x = y → V G Y R Fn k n (pc + 3) ls st h) : V G Y R Fn k n pc ls (.int (nI y) :: .int (nI x) :: st) h := V.icmp_eq hd ht (fun z => kt ((nI_eq hx hy).mp z)) (fun z => kf (fun q => z ((nI_eq hx hy).mpr q)))
theorem V.icmp_neN {G : am_G} {Y : am_Y} {R : Room} {Fn : Array Value → State → List Frame → State → Prop} {k n pc : Nat} {ls : List (Nat × Value)} {st : List Value} {h : List va_E} {x y : Nat} {off : Int} {tgt : Nat} (hd : decode Y.2.1 pc = .ok (.if_icmp .ne off, 3)) (ht : (pc : Int) + off = (tgt : Int)) (hx : x < 2 ^ 31) (hy : y < 2 ^ 31) (kt : ¬ x = y → V G Y R Fn k n tgt ls st h) (kf : x = y → V G Y R Fn k n (pc + 3) ls st h) : V G Y R Fn k n pc ls (.int (nI y) :: .int (nI x) :: st) h := V.icmp_ne hd ht (fun z => kt (fun q => z ((nI_eq hx hy).mpr q))) (fun z => kf ((nI_eq hx hy).mp z))
theorem nI_z0 {x : Nat} (hx : x < 2 ^ 31) : nI x = 0 ↔ x = 0 := by rw [← nI_0]; exact nI_eq hx (by omega)
theorem nI_lt0 {x : Nat} (hx : x < 2 ^ 31) : ¬ nI x < 0 := nI_pos hx
theorem nI_0le {x : Nat} (hx : x < 2 ^ 31) : (0 : Int32) ≤ nI x := nI_pos' hx
theorem nI_0lt {x : Nat} (hx : x < 2 ^ 31) : (0 : Int32) < nI x ↔ 0 < x := by rw [← nI_0]; exact nI_ltI (by omega) hx
theorem nI_le0 {x : Nat} (hx : x < 2 ^ 31) : nI x ≤ 0 ↔ x = 0 := by rw [← nI_0, nI_leI hx (by omega)]; omega
theorem V.if_eqN {G : am_G} {Y : am_Y} {R : Room} {Fn : Array Value → State → List Frame → State → Prop} {k n pc : Nat} {ls : List (Nat × Value)} {st : List Value} {h : List va_E} {x : Nat} {off : Int} {tgt : Nat} (hd : decode Y.2.1 pc = .ok (.ifCond .eq off, 3)) (ht : (pc : Int) + off = (tgt : Int)) (hx : x < 2 ^ 31) (kt : x = 0 → V G Y R Fn k n tgt ls st h) (kf : ¬ x = 0 → V G Y R Fn k n (pc + 3) ls st h) : V G Y R Fn k n pc ls (.int (nI x) :: st) h := V.if_eq hd ht (fun z => kt ((nI_z0 hx).mp z)) (fun z => kf (fun q => z ((nI_z0 hx).mpr q)))
theorem V.if_gtN {G : am_G} {Y : am_Y} {R : Room} {Fn : Array Value → State → List Frame → State → Prop} {k n pc : Nat} {ls : List (Nat × Value)} {st : List Value} {h : List va_E} {x : Nat} {off : Int} {tgt : Nat} (hd : decode Y.2.1 pc = .ok (.ifCond .gt off, 3)) (ht : (pc : Int) + off = (tgt : Int)) (hx : x < 2 ^ 31) (kt : 0 < x → V G Y R Fn k n tgt ls st h) (kf : ¬ 0 < x → V G Y R Fn k n (pc + 3) ls st h) : V G Y R Fn k n pc ls (.int (nI x) :: st) h := V.if_gt hd ht (fun z => kt ((nI_0lt hx).mp z)) (fun z => kf (fun q => z ((nI_0lt hx).mpr q)))
theorem V.if_leN {G : am_G} {Y : am_Y} {R : Room} {Fn : Array Value → State → List Frame → State → Prop} {k n pc : Nat} {ls : List (Nat × Value)} {st : List Value} {h : List va_E} {x : Nat} {off : Int} {tgt : Nat} (hd : decode Y.2.1 pc = .ok (.ifCond .le off, 3)) (ht : (pc : Int) + off = (tgt : Int)) (hx : x < 2 ^ 31) (kt : x = 0 → V G Y R Fn k n tgt ls st h) (kf : ¬ x = 0 → V G Y R Fn k n (pc + 3) ls st h) : V G Y R Fn k n pc ls (.int (nI x) :: st) h := V.if_le hd ht (fun z => kt ((nI_le0 hx).mp z)) (fun z => kf (fun q => z ((nI_le0 hx).mpr q)))
theorem V.if_neN {G : am_G} {Y : am_Y} {R : Room} {Fn : Array Value → State → List Frame → State → Prop} {k n pc : Nat} {ls : List (Nat × Value)} {st : List Value} {h : List va_E} {x : Nat} {off : Int} {tgt : Nat} (hd : decode Y.2.1 pc = .ok (.ifCond .ne off, 3)) (ht : (pc : Int) + off = (tgt : Int)) (hx : x < 2 ^ 31) (kt : ¬ x = 0 → V G Y R Fn k n tgt ls st h) (kf : x = 0 → V G Y R Fn k n (pc + 3) ls st h) : V G Y R Fn k n pc ls (.int (nI x) :: st) h := V.if_ne hd ht (fun z => kt (fun q => z ((nI_z0 hx).mpr q))) (fun z => kf ((nI_z0 hx).mp z))
theorem V.if_ltN {G : am_G} {Y : am_Y} {R : Room} {Fn : Array Value → State → List Frame → State → Prop} {k n pc : Nat} {ls : List (Nat × Value)} {st : List Value} {h : List va_E} {x : Nat} {off : Int} {tgt : Nat} (hd : decode Y.2.1 pc = .ok (.ifCond .lt off, 3)) (ht : (pc : Int) + off = (tgt : Int)) (hx : x < 2 ^ 31) (kf : V G Y R Fn k n (pc + 3) ls st h) : V G Y R Fn k n pc ls (.int (nI x) :: st) h := V.if_lt hd ht (fun z => absurd z (nI_lt0 hx)) (fun _ => kf)
theorem V.if_geN {G : am_G} {Y : am_Y} {R : Room} {Fn : Array Value → State → List Frame → State → Prop} {k n pc : Nat} {ls : List (Nat × Value)} {st : List Value} {h : List va_E} {x : Nat} {off : Int} {tgt : Nat} (hd : decode Y.2.1 pc = .ok (.ifCond .ge off, 3)) (ht : (pc : Int) + off = (tgt : Int)) (hx : x < 2 ^ 31) (kt : V G Y R Fn k n tgt ls st h) : V G Y R Fn k n pc ls (.int (nI x) :: st) h := V.if_ge hd ht (fun _ => kt) (fun z => absurd (nI_0le hx) z)
