theorem am_kn {own : String} {idx ci : Nat} {fs : List Value} (h : am_nw own idx ci fs) {args : Array Value} {s : State} (hts : ∀ w ∈ am_tbl, w.before args s = true) : ∃ q : ClassId × (Nat → Nat), ∀ r : vw_C, am_cl[ci]? = some r → u_Kn s r.1 r.2.1 r.2.2 q.1 q.2 := by
  obtain ⟨C, T, N, t0, h1, h2, h3, h4, h5, h6, -⟩ := h
  obtain ⟨cC, iS, hk⟩ := u_known (C := C) (T := T) (N := N) (n := N) hts h6 (hts _ h4)
  exact ⟨(cC, iS), fun r hr => by rw [h1] at hr; cases hr; exact hk⟩
theorem am_arr {ty : FieldType} {args : Array Value} {s : State} (h : (Cond.arrayClass ty).before args s = true) : ∃ cA : ClassId, ArrOfT s cA ty ∧ s.vm.findClass ("[" ++ ty.toString) = some cA := by
  obtain ⟨cA, kA, comp, h1, h2, h3⟩ := Cond.arrayClass_spec h
  exact ⟨cA, fun n z => ⟨fun k h => (by cases h), kA, h2, comp, h3⟩, h1⟩
set_option maxRecDepth 100000 in
set_option maxHeartbeats 4000000 in
theorem whole_start {p : Program} {e : Env} {s : State} {m : MethodId} {below : List Frame} {meth : Method} {c : Code} (l : Launch) {b L : Nat} {xs : Nat → Int32} (hL : L ≤ 2560) (C0 : lw_At p s m meth c b L xs) : W p l e room_1 s m #[Value.ref b] below meth c s.heap [] 0 0 (lw_Z below #[Value.ref b] s) (entryFrame m ([Value.ref b] : List Value).toArray 4) := by
  obtain ⟨hx, hb, hr, hml, hown, hts, hX, hbl, hlocks, hgv⟩ := id C0
  have hs := flat_of_before _ hgv
  have hta : ∀ w ∈ am_tbl, w.before #[Value.ref b] s = true := fun w hw => hts w (List.mem_filter.mp hw).1
  have eNAMED0 : (Term.elem (.static "RegisterHouse" "NAMED" "[I") (.int 0)).eval #[Value.ref b] s none [] s = some (.int 1) := va_eqt (hs (.eq (.elem (.static "RegisterHouse" "NAMED" "[I") (.int 0)) (.int 1)) (by decide +kernel))
  have eNAMED1 : (Term.elem (.static "RegisterHouse" "NAMED" "[I") (.int 1)).eval #[Value.ref b] s none [] s = some (.int 3) := va_eqt (hs (.eq (.elem (.static "RegisterHouse" "NAMED" "[I") (.int 1)) (.int 3)) (by decide +kernel))
  have eNAMED2 : (Term.elem (.static "RegisterHouse" "NAMED" "[I") (.int 2)).eval #[Value.ref b] s none [] s = some (.int 7) := va_eqt (hs (.eq (.elem (.static "RegisterHouse" "NAMED" "[I") (.int 2)) (.int 7)) (by decide +kernel))
  have eNAMED3 : (Term.elem (.static "RegisterHouse" "NAMED" "[I") (.int 3)).eval #[Value.ref b] s none [] s = some (.int 7) := va_eqt (hs (.eq (.elem (.static "RegisterHouse" "NAMED" "[I") (.int 3)) (.int 7)) (by decide +kernel))
  have eNAMED4 : (Term.elem (.static "RegisterHouse" "NAMED" "[I") (.int 4)).eval #[Value.ref b] s none [] s = some (.int 7) := va_eqt (hs (.eq (.elem (.static "RegisterHouse" "NAMED" "[I") (.int 4)) (.int 7)) (by decide +kernel))
  have eNAMED5 : (Term.elem (.static "RegisterHouse" "NAMED" "[I") (.int 5)).eval #[Value.ref b] s none [] s = some (.int 3) := va_eqt (hs (.eq (.elem (.static "RegisterHouse" "NAMED" "[I") (.int 5)) (.int 3)) (by decide +kernel))
  have eNAMED6 : (Term.elem (.static "RegisterHouse" "NAMED" "[I") (.int 6)).eval #[Value.ref b] s none [] s = some (.int 3) := va_eqt (hs (.eq (.elem (.static "RegisterHouse" "NAMED" "[I") (.int 6)) (.int 3)) (by decide +kernel))
  have eNAMED7 : (Term.elem (.static "RegisterHouse" "NAMED" "[I") (.int 7)).eval #[Value.ref b] s none [] s = some (.int 3) := va_eqt (hs (.eq (.elem (.static "RegisterHouse" "NAMED" "[I") (.int 7)) (.int 3)) (by decide +kernel))
  have eNAMED8 : (Term.elem (.static "RegisterHouse" "NAMED" "[I") (.int 8)).eval #[Value.ref b] s none [] s = some (.int 0) := va_eqt (hs (.eq (.elem (.static "RegisterHouse" "NAMED" "[I") (.int 8)) (.int 0)) (by decide +kernel))
  have eNAMED9 : (Term.elem (.static "RegisterHouse" "NAMED" "[I") (.int 9)).eval #[Value.ref b] s none [] s = some (.int 1) := va_eqt (hs (.eq (.elem (.static "RegisterHouse" "NAMED" "[I") (.int 9)) (.int 1)) (by decide +kernel))
  have eNAMED10 : (Term.elem (.static "RegisterHouse" "NAMED" "[I") (.int 10)).eval #[Value.ref b] s none [] s = some (.int 0) := va_eqt (hs (.eq (.elem (.static "RegisterHouse" "NAMED" "[I") (.int 10)) (.int 0)) (by decide +kernel))
  have eTAKEN0 : (Term.elem (.static "RegisterHouse" "TAKEN" "[I") (.int 0)).eval #[Value.ref b] s none [] s = some (.int 0) := va_eqt (hs (.eq (.elem (.static "RegisterHouse" "TAKEN" "[I") (.int 0)) (.int 0)) (by decide +kernel))
  have eTAKEN1 : (Term.elem (.static "RegisterHouse" "TAKEN" "[I") (.int 1)).eval #[Value.ref b] s none [] s = some (.int 2) := va_eqt (hs (.eq (.elem (.static "RegisterHouse" "TAKEN" "[I") (.int 1)) (.int 2)) (by decide +kernel))
  have eTAKEN2 : (Term.elem (.static "RegisterHouse" "TAKEN" "[I") (.int 2)).eval #[Value.ref b] s none [] s = some (.int 6) := va_eqt (hs (.eq (.elem (.static "RegisterHouse" "TAKEN" "[I") (.int 2)) (.int 6)) (by decide +kernel))
  have eTAKEN3 : (Term.elem (.static "RegisterHouse" "TAKEN" "[I") (.int 3)).eval #[Value.ref b] s none [] s = some (.int 6) := va_eqt (hs (.eq (.elem (.static "RegisterHouse" "TAKEN" "[I") (.int 3)) (.int 6)) (by decide +kernel))
  have eTAKEN4 : (Term.elem (.static "RegisterHouse" "TAKEN" "[I") (.int 4)).eval #[Value.ref b] s none [] s = some (.int 6) := va_eqt (hs (.eq (.elem (.static "RegisterHouse" "TAKEN" "[I") (.int 4)) (.int 6)) (by decide +kernel))
  have eTAKEN5 : (Term.elem (.static "RegisterHouse" "TAKEN" "[I") (.int 5)).eval #[Value.ref b] s none [] s = some (.int 2) := va_eqt (hs (.eq (.elem (.static "RegisterHouse" "TAKEN" "[I") (.int 5)) (.int 2)) (by decide +kernel))
  have eTAKEN6 : (Term.elem (.static "RegisterHouse" "TAKEN" "[I") (.int 6)).eval #[Value.ref b] s none [] s = some (.int 3) := va_eqt (hs (.eq (.elem (.static "RegisterHouse" "TAKEN" "[I") (.int 6)) (.int 3)) (by decide +kernel))
  have eTAKEN7 : (Term.elem (.static "RegisterHouse" "TAKEN" "[I") (.int 7)).eval #[Value.ref b] s none [] s = some (.int 3) := va_eqt (hs (.eq (.elem (.static "RegisterHouse" "TAKEN" "[I") (.int 7)) (.int 3)) (by decide +kernel))
  have eTAKEN8 : (Term.elem (.static "RegisterHouse" "TAKEN" "[I") (.int 8)).eval #[Value.ref b] s none [] s = some (.int 0) := va_eqt (hs (.eq (.elem (.static "RegisterHouse" "TAKEN" "[I") (.int 8)) (.int 0)) (by decide +kernel))
  have eTAKEN9 : (Term.elem (.static "RegisterHouse" "TAKEN" "[I") (.int 9)).eval #[Value.ref b] s none [] s = some (.int 1) := va_eqt (hs (.eq (.elem (.static "RegisterHouse" "TAKEN" "[I") (.int 9)) (.int 1)) (by decide +kernel))
  have eTAKEN10 : (Term.elem (.static "RegisterHouse" "TAKEN" "[I") (.int 10)).eval #[Value.ref b] s none [] s = some (.int 0) := va_eqt (hs (.eq (.elem (.static "RegisterHouse" "TAKEN" "[I") (.int 10)) (.int 0)) (by decide +kernel))
  have hNAMEDa : (Cond.arrayOf (.static "RegisterHouse" "NAMED" "[I") .int).before #[Value.ref b] s = true := hs _ (by decide +kernel)
  have hNAMEDl : (Term.length (.static "RegisterHouse" "NAMED" "[I")).eval #[Value.ref b] s none [] s = some (.int (Int32.ofNat 11)) := va_eqt (hs (.eq (.length (.static "RegisterHouse" "NAMED" "[I")) (.int 11)) (by decide +kernel))
  obtain ⟨tNAMED, vNAMED, TNAMED⟩ := va_Tof (N := 11) (f := fun j => .int (cz_nm j)) (A := fun q => s.heap.size ≤ q) (by decide) hNAMEDa hNAMEDl (fun j hj => by
    rcases (by omega : j = 0 ∨ j = 1 ∨ j = 2 ∨ j = 3 ∨ j = 4 ∨ j = 5 ∨ j = 6 ∨ j = 7 ∨ j = 8 ∨ j = 9 ∨ j = 10) with z | z | z | z | z | z | z | z | z | z | z <;> subst z
    · exact eNAMED0
    · exact eNAMED1
    · exact eNAMED2
    · exact eNAMED3
    · exact eNAMED4
    · exact eNAMED5
    · exact eNAMED6
    · exact eNAMED7
    · exact eNAMED8
    · exact eNAMED9
    · exact eNAMED10) (fun a ha => Nat.not_le.mpr ha)
  have ZNAMED : va_Z "RegisterHouse" "NAMED" "[I" (.ref tNAMED) (fun q => s.heap.size ≤ q) s s.heap := va_Zref (hts (.laysStatic "RegisterHouse" "NAMED" "[I") (List.mem_of_getElem? (i := 317) (by decide +kernel))) (hts (.initialized "RegisterHouse") (List.mem_of_getElem? (i := 51) (by decide +kernel))) vNAMED (fun a ha => Nat.not_le.mpr ha)
  have hTAKENa : (Cond.arrayOf (.static "RegisterHouse" "TAKEN" "[I") .int).before #[Value.ref b] s = true := hs _ (by decide +kernel)
  have hTAKENl : (Term.length (.static "RegisterHouse" "TAKEN" "[I")).eval #[Value.ref b] s none [] s = some (.int (Int32.ofNat 11)) := va_eqt (hs (.eq (.length (.static "RegisterHouse" "TAKEN" "[I")) (.int 11)) (by decide +kernel))
  obtain ⟨tTAKEN, vTAKEN, TTAKEN⟩ := va_Tof (N := 11) (f := fun j => .int (cz_tk j)) (A := fun q => s.heap.size ≤ q) (by decide) hTAKENa hTAKENl (fun j hj => by
    rcases (by omega : j = 0 ∨ j = 1 ∨ j = 2 ∨ j = 3 ∨ j = 4 ∨ j = 5 ∨ j = 6 ∨ j = 7 ∨ j = 8 ∨ j = 9 ∨ j = 10) with z | z | z | z | z | z | z | z | z | z | z <;> subst z
    · exact eTAKEN0
    · exact eTAKEN1
    · exact eTAKEN2
    · exact eTAKEN3
    · exact eTAKEN4
    · exact eTAKEN5
    · exact eTAKEN6
    · exact eTAKEN7
    · exact eTAKEN8
    · exact eTAKEN9
    · exact eTAKEN10) (fun a ha => Nat.not_le.mpr ha)
  have ZTAKEN : va_Z "RegisterHouse" "TAKEN" "[I" (.ref tTAKEN) (fun q => s.heap.size ≤ q) s s.heap := va_Zref (hts (.laysStatic "RegisterHouse" "TAKEN" "[I") (List.mem_of_getElem? (i := 348) (by decide +kernel))) (hts (.initialized "RegisterHouse") (List.mem_of_getElem? (i := 51) (by decide +kernel))) vTAKEN (fun a ha => Nat.not_le.mpr ha)
  obtain ⟨ci, hci1, hci2⟩ := am_arr (hts (.arrayClass .int) (List.mem_filter.mp ac_int).1)
  obtain ⟨cb, hcb1, hcb2⟩ := am_arr (hts (.arrayClass .boolean) (List.mem_filter.mp ac_bool).1)
  have hkn : ∀ k : Nat, ∃ q : ClassId × (Nat → Nat), ∀ r : vw_C, am_cl[k]? = some r → u_Kn s r.1 r.2.1 r.2.2 q.1 q.2 := by
    intro k
    match k, trivial with
    | 0, _ => exact am_kn wX7_30 hta
    | 1, _ => exact am_kn wX7_16 hta
    | 2, _ => exact am_kn wX7_23 hta
    | 3, _ => exact am_kn wX7_44 hta
    | 4, _ => exact am_kn wX7_60 hta
    | 5, _ => exact am_kn wX7_9 hta
    | 6, _ => exact am_kn wX7_37 hta
    | 7, _ => exact am_kn wL_7 hta
    | 8, _ => exact am_kn wL_10 hta
    | k + 9, _ => 
      obtain ⟨q, -⟩ := am_kn wX7_30 hta
      exact ⟨q, fun r hr => by simp [am_cl, vwCl] at hr⟩
  obtain ⟨d, hd⟩ := Classical.axiomOfChoice hkn
  obtain ⟨G, hG⟩ : ∃ G : am_G, G = (s.heap.size, s.heap, (fun k => (d k).1, fun k => (d k).2), (fun k => if k = 0 then ci else cb), fun k => if k = 0 then (tNAMED, 11, cz_nm) else if k = 1 then (tTAKEN, 11, cz_tk) else (b, L, xs)) := ⟨_, rfl⟩
  have hK : am_K G s := by
    subst hG
    refine ⟨⟨fun k r hr => hd k r hr, fun k q hq => ?_⟩, fun k hk => ?_, fun z hz => ?_, fun w hw => ?_⟩
    · match k, hq with
      | 0, hq => cases hq; exact ⟨hci1, hci2⟩
      | 1, hq => cases hq; exact ⟨hcb1, hcb2⟩
      | k + 2, hq => simp [gTys] at hq
    · rcases (by unfold am_low at hk; omega : k = 0 ∨ k = 1 ∨ k = 2) with e | e | e <;> subst e
      · exact TNAMED
      · exact TTAKEN
      · obtain ⟨scr, x1, x2, x3, x4, x5⟩ := hX
        exact ⟨scr, x1, x2, x3, by show L ≤ _; omega, by rw [x4]; rfl, fun j hj => x5 j hj, Nat.not_le.mpr hbl⟩
    · rcases List.mem_cons.mp hz with e | hz
      · subst e; exact ZNAMED
      · rcases List.mem_cons.mp hz with e | hz
        · subst e; exact ZTAKEN
        · cases hz
    · have h1 := List.mem_filter.mp hw
      have h2 := hts w h1.1
      cases w with
      | methodLinkNest a i x h => exact va_Nw.of rfl h2
      | fieldLinkNest a i b n d h => exact va_Nw.of rfl h2
      | _ => exact absurd h1.2 (by simp [am_isN])
  have hst : am_sta G := by subst hG; exact ⟨rfl, rfl, fun j hj => rfl, fun j hj => rfl⟩
  have eB : gB G = s.heap.size := by subst hG; rfl
  have eH : gH G = s.heap := by subst hG; rfl
  have eL : (gL G 2).2.1 = L := by subst hG; rfl
  have eb : (gL G 2).1 = b := by subst hG; rfl
  have hl := lv_entry ([.ref b]) (n := 4) (Nat.le_of_ble_eq_true rfl)
  rw [lg_entry_eq]
  generalize (lg_sl ([.ref b]) ++ List.replicate (4 - (lg_sl ([.ref b])).length) Slot.unset).toArray = ls at hl ⊢
  have hl : lv_has ls 4 [(0, .ref b)] := hl
  have hl2 : lv_has ls 4 (cL G [(0, .retAddr 2)]) := by
    show lv_has ls 4 [(0, Value.ref (gL G 2).1)]
    rw [eb]; exact hl
  have X : am_Fix G (ML meth.name) p s m #[Value.ref b] meth c := ⟨hx, hb, hml, hr, hown, hlocks, rfl, hta, hK, fun q hq => by rw [eH], by rw [eB]; exact Nat.le_refl _⟩
  have w0 : am_W G [] s.heap := ⟨by rw [eB]; rfl, fun q hq => by rw [eH], fun k x h => by simp at h⟩
  have K := lw_body (G := G) (nm := meth.name) hst L eL hL p l e s m #[Value.ref b] below meth c s.heap [] 0 0 ls X w0 va_S.rf hl2 (by decide) (by decide)
  intro T hT X0
  obtain ⟨t, h1, h2⟩ := K T hT X0
  exact ⟨t, h1, h2 eB.symm⟩
