def cz_h51 : List va_E := [.inr (7, [.ref 1, .ref 12, .ref 15, .ref 21, .ref 23, .ref 25, .ref 30, .ref 35, .ref 36, .ref 41, .ref 46, .int 0]), .inr (5, [.ref 2, .ref 3, .ref 4, .ref 9, .ref 10, .ref 11, .int 0]), .inl (0, 24, .inl (fun _ => 0)), .inl (0, 2, .inl (fun _ => 0)), .inr (3, [.ref 5, .ref 6, .ref 7, .ref 8, .int 0]), .inl (0, 60, .inl (fun _ => 0)), .inl (0, 60, .inl (fun _ => 0)), .inl (0, 60, .inl (fun _ => 0)), .inl (0, 60, .inl (fun _ => 0)), .inl (0, 60, .inl (fun _ => 0)), .inl (0, 60, .inl (fun _ => 0)), .inl (0, 60, .inl (fun _ => 0)), .inr (1, [.ref 13, .ref 14]), .inl (0, 60, .inl (fun _ => 0)), .inl (0, 24, .inl (fun _ => 0)), .inr (2, [.ref 16, .ref 17, .ref 18, .ref 19, .ref 20]), .inl (0, 2, .inl (fun _ => 0)), .inl (0, 24, .inl (fun _ => 0)), .inl (0, 24, .inl (fun _ => 0)), .inl (0, 24, .inl (fun _ => 0)), .inl (0, 24, .inl (fun _ => 0)), .inr (0, [.ref 22]), .inl (0, 61, .inl (fun _ => 0)), .inr (6, [.ref 24]), .inl (1, 241, .inl (fun _ => 0)), .inr (3, [.ref 26, .ref 27, .ref 28, .ref 29, .int 0]), .inl (0, 240, .inl (fun _ => 0)), .inl (0, 240, .inl (fun _ => 0)), .inl (0, 240, .inl (fun _ => 0)), .inl (0, 240, .inl (fun _ => 0)), .inr (3, [.ref 31, .ref 32, .ref 33, .ref 34, .int 0]), .inl (0, 240, .inl (fun _ => 0)), .inl (0, 240, .inl (fun _ => 0)), .inl (0, 240, .inl (fun _ => 0)), .inl (0, 240, .inl (fun _ => 0)), .inl (0, 64, .inl (fun _ => 0)), .inr (4, [.ref 37, .ref 38, .ref 39, .ref 40, .int 0, .int 0]), .inl (0, 32, .inl (fun _ => 0)), .inl (0, 48, .inl (fun _ => 0)), .inl (0, 64, .inl (fun _ => 0)), .inl (0, 50, .inl (fun _ => 0)), .inr (4, [.ref 42, .ref 43, .ref 44, .ref 45, .int 0, .int 0]), .inl (0, 32, .inl (fun _ => 0)), .inl (0, 48, .inl (fun _ => 0)), .inl (0, 64, .inl (fun _ => 0)), .inl (0, 50, .inl (fun _ => 0)), .inr (4, [.ref 47, .ref 48, .ref 49, .ref 50, .int 0, .int 0]), .inl (0, 32, .inl (fun _ => 0)), .inl (0, 48, .inl (fun _ => 0)), .inl (0, 64, .inl (fun _ => 0)), .inl (0, 50, .inl (fun _ => 0))]
def cz_h8 (o : Nat) : List va_E := .inr (8, [.int 0, .ref (o + 1), .int 0, .ref (o + 2), .ref (o + 3), .ref (o + 4), .ref (o + 5), .ref (o + 6), .ref (o + 7), .ref (o + 8), .ref (o + 9), .ref (o + 10), .ref (o + 11), .ref (o + 12), .ref (o + 13), .ref (o + 14), .ref (o + 15), .ref (o + 16), .int 0, .int 0, .ref (o + 17), .ref (o + 18), .ref (o + 19), .ref (o + 20), .ref (o + 21), .int 0, .ref (o + 22), .ref (o + 23)]) :: [.inl (0, 24, .inl (fun _ => 0)), .inl (0, 60, .inl (fun _ => 0)), .inl (0, 60, .inl (fun _ => 0)), .inl (0, 60, .inl (fun _ => 0)), .inl (0, 60, .inl (fun _ => 0)), .inl (0, 2, .inl (fun _ => 0)), .inl (0, 64, .inl (fun _ => 0)), .inl (0, 60, .inl (fun _ => 0)), .inl (0, 60, .inl (fun _ => 0)), .inl (0, 24, .inl (fun _ => 0)), .inl (0, 24, .inl (fun _ => 0)), .inl (0, 24, .inl (fun _ => 0)), .inl (0, 24, .inl (fun _ => 0)), .inl (0, 3200, .inl (fun _ => 0)), .inl (0, 2, .inl (fun _ => 0)), .inl (0, 62, .inl (fun _ => 0)), .inl (0, 50, .inl (fun _ => 0)), .inl (0, 64, .inl (fun _ => 0)), .inl (0, 32, .inl (fun _ => 0)), .inl (0, 64, .inl (fun _ => 0)), .inl (0, 24, .inl (fun _ => 0)), .inl (0, 2, .inl (fun _ => 0)), .inl (0, 2, .inl (fun _ => 0))]
set_option maxRecDepth 100000 in
set_option maxHeartbeats 4000000 in
theorem cz_h75 : cz_h51 ++ cz_h8 51 = hp (fun _ _ => 0) (fun _ _ => 0) := rfl
theorem cz_Inv0 : cz_Inv (fun _ _ => 0) (fun _ _ => 0) := by
  refine ⟨0, 0, 0, ?_, ?_, ?_, by omega, rfl, cz_L_0⟩
  · exact ⟨rfl, rfl, by omega, by omega, fun s hs => absurd hs (Nat.not_lt_zero _), fun s hs => absurd hs (Nat.not_lt_zero _), fun c hc => ⟨0, by omega, rfl⟩, fun c hc i => ⟨fun z => (by rw [show ((fun _ _ => 0 : Nat → Nat → Int32) 3 c) = nI 0 from rfl, bg_0] at z; cases z), fun z => absurd z.1 (Nat.not_lt_zero _)⟩, fun s hs => absurd hs (Nat.not_lt_zero _), fun s hs => absurd hs (Nat.not_lt_zero _), fun s hs => absurd hs (Nat.not_lt_zero _), fun v hv => rfl⟩
  · exact ⟨rfl, rfl, rfl, rfl, rfl, rfl, rfl, rfl, rfl, fun v hv => rfl⟩
  · exact ⟨0, by omega, rfl, rfl, rfl, fun _ _ => rfl, fun _ _ => rfl⟩
set_option maxRecDepth 100000 in
set_option maxHeartbeats 4000000 in
theorem lw_body {G : am_G} {nm : String} (hst : am_sta G) (L : Nat) (hL : (gL G 2).2.1 = L) (hL2 : L ≤ 2560) : V G (ML nm) room_1 (lwF G) 75 7633 0 [(0, .retAddr 2)] [] [] := by
  refine V.new (h' := [.inr (7, [.null, .null, .null, .null, .null, .null, .null, .null, .null, .null, .null, .int 0])]) (k' := 74) (n' := 7621) dL_law_0 wL_7 rfl rfl rfl ?_
  refine V.stg (st' := [.ref 0]) rfl ?_
  refine V.dup rfl dL_law_3 ?_
  refine V.callI (As := []) (st := [.ref 0]) (a := 0) dL_law_4 sL_9 rfl rfl iX7_init (cd_initX7 (G := G)) ⟨by decide, by decide⟩ (by decide) (by decide) (Nat.le_of_ble_eq_true rfl) rfl (fun r h' hq => ?_)
  obtain ⟨rfl, rfl⟩ := hq
  show V G (ML nm) room_1 (lwF G) 24 4076 7 [(0, .retAddr 2)] [.ref 0] cz_h51
  refine V.astore_n (ls' := [(0, .retAddr 2), (1, .ref 0)]) dL_law_7 (show 1 < 4 by decide) rfl ?_
  refine V.new (h' := cz_h51 ++ [.inr (8, [.int 0, .null, .int 0, .null, .null, .null, .null, .null, .null, .null, .null, .null, .null, .null, .null, .null, .null, .null, .int 0, .int 0, .null, .null, .null, .null, .null, .int 0, .null, .null])]) (k' := 23) (n' := 4048) dL_law_8 wL_10 rfl rfl rfl ?_
  refine V.stg (st' := [.ref 51]) rfl ?_
  refine V.dup rfl dL_law_11 ?_
  refine V.callI (As := []) (st := [.ref 51]) (a := 51) dL_law_12 sL_12 rfl rfl iX8_init (md_init (G := G) cz_h51) ⟨by decide, by decide⟩ (by decide) (by decide) (Nat.le_of_ble_eq_true rfl) rfl (fun r h' hq => ?_)
  obtain ⟨rfl, rfl⟩ := hq
  show V G (ML nm) room_1 (lwF G) 0 0 15 [(0, .retAddr 2), (1, .ref 0)] [.ref 51] (cz_h51 ++ cz_h8 51)
  rw [cz_h75]
  refine V.astore_n (ls' := [(0, .retAddr 2), (1, .ref 0), (2, .ref mM)]) dL_law_15 (show 2 < 4 by decide) rfl ?_
  refine V.iconst (v := nI 0) (by decide) dL_law_16 ?_
  refine V.istore_n (ls' := [(0, .retAddr 2), (1, .ref 0), (2, .ref mM), (3, .int (nI 0))]) dL_law_17 (show 3 < 4 by decide) rfl ?_
  exact lw_loop hst L hL hL2 L 0 _ _ cz_Inv0 (by omega) (by omega)
