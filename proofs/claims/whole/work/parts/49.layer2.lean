/-- a contract of a member of the library, by its walk -/
theorem Ct.ofF {G : am_G} {Y : am_Y} {d lo mc ms : Nat} {as : List Value} {h : List va_E} {Post : Option Value → List va_E → Prop} (hy : plainFor Y.1 = true) (hl : as.length ≤ Y.2.2.1) (hc : ∀ v ∈ as, v.category = 1) (hv : V G Y (am_R d lo mc ms) (am_Fin G mc ms Post) mc ms 0 (am_as 0 as) [] h) : Ct G Y d lo mc ms as h Post := by
  intro l
  refine va_MetF (cc := Y.2.1) (maxL := Y.2.2.1) (ret := Y.2.2.2) hy rfl ?_
  intro p e s m args below meth c s₁ B hml hPc
  obtain ⟨rfl, hW, hK⟩ := hPc
  have hts := atoms_spec (ws := am_ws Y) B.pre
  have hown : s.vm.findClass Y.1.cls = some m.cls := findClass_of_methodNamed B.named
  have hnm : meth.name = Y.1.name := (name_of_methodNamed B.named B.method).1
  have hlen := am_sl_len G as hc
  have hl2 := lv_entry (as.map (cV G)) (n := Y.2.2.1) (by rw [hlen]; exact hl)
  rw [am_as_args G as 0 hc] at hl2
  rw [lg_entry_eq]
  generalize (lg_sl (as.map (cV G)) ++ List.replicate (Y.2.2.1 - (lg_sl (as.map (cV G))).length) Slot.unset).toArray = lsr at hl2 ⊢
  have hz := hW.1
  exact hv p l e s m _ below meth c s.heap [] 0 0 lsr ⟨B.exec, B.bytes, hml, B.returns, hown, B.notSynchronized, hnm, fun w hw => hts w (List.mem_cons_of_mem _ hw), hK, hW.2.1, by omega⟩ hW va_S.rf hl2 (by simp [am_R]) (by simp [am_R])
theorem Cm.ofF {G : am_G} {Y : am_Y} {d lo : Nat} {as : List Value} {I A : Nat → Nat → Int32} {Q : Option Value → (Nat → Nat → Int32) → (Nat → Nat → Int32) → Prop} (hy : plainFor Y.1 = true) (hl : as.length ≤ Y.2.2.1) (hc : as.all (fun v => v.category == 1) = true) (hv : V G Y (am_R d lo 0 0) (am_Fin G 0 0 (Pm Q)) 0 0 0 (am_as 0 as) [] (hp I A)) : Cm G Y d lo as I A Q := Ct.ofF hy hl (fun v hv => by have h := List.all_eq_true.mp hc v hv; simpa using h) hv
theorem V.ldcw {G : am_G} {Y : am_Y} {R : Room} {Fn : Array Value → State → List Frame → State → Prop} {k n pc : Nat} {ls : List (Nat × Value)} {st : List Value} {h : List va_E} {idx : Nat} {v : Int32} (hd : decode Y.2.1 pc = .ok (.ldc_w idx, 3)) (hk : Cond.constant Y.1.cls idx v ∈ am_tbl) (kk : V G Y R Fn k n (pc + 3) ls (.int v :: st) h) : V G Y R Fn k n pc ls st h := by
  intro p l e s m args below meth c H locs cells slots lsr X w S hl hc hn
  exact lv_ldcw X.exec X.bytes X.own (X.hts _ hk) hd (kk p l e s m args below meth c H locs cells slots lsr X w S hl hc hn)
