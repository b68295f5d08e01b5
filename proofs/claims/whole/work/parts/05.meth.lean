abbrev MX0_init : am_Y := (yX0_init, cX0_init, 1, none)
set_option maxRecDepth 40000 in
theorem cwX0_init : Cond.code MX0_init.1 MX0_init.2.1 MX0_init.2.2.1 MX0_init.2.2.2 ∈ am_tbl := am_in 209 rfl rfl
abbrev MX0_translate : am_Y := (yX0_translate, cX0_translate, 5, none)
set_option maxRecDepth 40000 in
theorem cwX0_translate : Cond.code MX0_translate.1 MX0_translate.2.1 MX0_translate.2.2.1 MX0_translate.2.2.2 ∈ am_tbl := am_in 459 rfl rfl
abbrev MX0_isNeedless : am_Y := (yX0_isNeedless, cX0_isNeedless, 5, some FieldType.boolean)
set_option maxRecDepth 40000 in
theorem cwX0_isNeedless : Cond.code MX0_isNeedless.1 MX0_isNeedless.2.1 MX0_isNeedless.2.2.1 MX0_isNeedless.2.2.2 ∈ am_tbl := am_in 462 rfl rfl
abbrev MX0_translateStep : am_Y := (yX0_translateStep, cX0_translateStep, 10, none)
set_option maxRecDepth 40000 in
theorem cwX0_translateStep : Cond.code MX0_translateStep.1 MX0_translateStep.2.1 MX0_translateStep.2.2.1 MX0_translateStep.2.2.2 ∈ am_tbl := am_in 465 rfl rfl
abbrev MX0_bring : am_Y := (yX0_bring, cX0_bring, 6, some FieldType.int)
set_option maxRecDepth 40000 in
theorem cwX0_bring : Cond.code MX0_bring.1 MX0_bring.2.1 MX0_bring.2.2.1 MX0_bring.2.2.2 ∈ am_tbl := am_in 468 rfl rfl
abbrev MX0_firstHolds8 : am_Y := (yX0_firstHolds8, cX0_firstHolds8, 4, some FieldType.boolean)
set_option maxRecDepth 40000 in
theorem cwX0_firstHolds8 : Cond.code MX0_firstHolds8.1 MX0_firstHolds8.2.1 MX0_firstHolds8.2.2.1 MX0_firstHolds8.2.2.2 ∈ am_tbl := am_in 476 rfl rfl
abbrev MX0_registerOf : am_Y := (yX0_registerOf, cX0_registerOf, 5, some FieldType.int)
set_option maxRecDepth 40000 in
theorem cwX0_registerOf : Cond.code MX0_registerOf.1 MX0_registerOf.2.1 MX0_registerOf.2.2.1 MX0_registerOf.2.2.2 ∈ am_tbl := am_in 471 rfl rfl
abbrev MX0_addMaker : am_Y := (yX0_addMaker, cX0_addMaker, 7, none)
set_option maxRecDepth 40000 in
theorem cwX0_addMaker : Cond.code MX0_addMaker.1 MX0_addMaker.2.1 MX0_addMaker.2.2.1 MX0_addMaker.2.2.2 ∈ am_tbl := am_in 482 rfl rfl
abbrev MX0_addUser : am_Y := (yX0_addUser, cX0_addUser, 6, none)
set_option maxRecDepth 40000 in
theorem cwX0_addUser : Cond.code MX0_addUser.1 MX0_addUser.2.1 MX0_addUser.2.2.1 MX0_addUser.2.2.2 ∈ am_tbl := am_in 479 rfl rfl
abbrev MX1_init : am_Y := (yX1_init, cX1_init, 1, none)
set_option maxRecDepth 40000 in
theorem cwX1_init : Cond.code MX1_init.1 MX1_init.2.1 MX1_init.2.2.1 MX1_init.2.2.2 ∈ am_tbl := am_in 167 rfl rfl
abbrev MX1_spread : am_Y := (yX1_spread, cX1_spread, 7, none)
set_option maxRecDepth 40000 in
theorem cwX1_spread : Cond.code MX1_spread.1 MX1_spread.2.1 MX1_spread.2.2.1 MX1_spread.2.2.2 ∈ am_tbl := am_in 377 rfl rfl
abbrev MX1_liveBefore : am_Y := (yX1_liveBefore, cX1_liveBefore, 4, some FieldType.int)
set_option maxRecDepth 40000 in
theorem cwX1_liveBefore : Cond.code MX1_liveBefore.1 MX1_liveBefore.2.1 MX1_liveBefore.2.2.1 MX1_liveBefore.2.2.2 ∈ am_tbl := am_in 381 rfl rfl
abbrev MX1_behind : am_Y := (yX1_behind, cX1_behind, 4, some FieldType.int)
set_option maxRecDepth 40000 in
theorem cwX1_behind : Cond.code MX1_behind.1 MX1_behind.2.1 MX1_behind.2.2.1 MX1_behind.2.2.2 ∈ am_tbl := am_in 385 rfl rfl
abbrev MX1_beforeIfThere : am_Y := (yX1_beforeIfThere, cX1_beforeIfThere, 3, some FieldType.int)
set_option maxRecDepth 40000 in
theorem cwX1_beforeIfThere : Cond.code MX1_beforeIfThere.1 MX1_beforeIfThere.2.1 MX1_beforeIfThere.2.2.1 MX1_beforeIfThere.2.2.2 ∈ am_tbl := am_in 393 rfl rfl
abbrev MX1_collide : am_Y := (yX1_collide, cX1_collide, 4, none)
set_option maxRecDepth 40000 in
theorem cwX1_collide : Cond.code MX1_collide.1 MX1_collide.2.1 MX1_collide.2.2.1 MX1_collide.2.2.2 ∈ am_tbl := am_in 405 rfl rfl
abbrev MX1_blockedIn : am_Y := (yX1_blockedIn, cX1_blockedIn, 5, some FieldType.int)
set_option maxRecDepth 40000 in
theorem cwX1_blockedIn : Cond.code MX1_blockedIn.1 MX1_blockedIn.2.1 MX1_blockedIn.2.2.1 MX1_blockedIn.2.2.2 ∈ am_tbl := am_in 409 rfl rfl
abbrev MX1_blockAll : am_Y := (yX1_blockAll, cX1_blockAll, 4, none)
set_option maxRecDepth 40000 in
theorem cwX1_blockAll : Cond.code MX1_blockAll.1 MX1_blockAll.2.1 MX1_blockAll.2.2.1 MX1_blockAll.2.2.2 ∈ am_tbl := am_in 414 rfl rfl
abbrev MX2_init : am_Y := (yX2_init, cX2_init, 1, none)
set_option maxRecDepth 40000 in
theorem cwX2_init : Cond.code MX2_init.1 MX2_init.2.1 MX2_init.2.2.1 MX2_init.2.2.2 ∈ am_tbl := am_in 182 rfl rfl
abbrev MX2_settle : am_Y := (yX2_settle, cX2_settle, 5, none)
set_option maxRecDepth 40000 in
theorem cwX2_settle : Cond.code MX2_settle.1 MX2_settle.2.1 MX2_settle.2.2.1 MX2_settle.2.2.2 ∈ am_tbl := am_in 419 rfl rfl
abbrev MX2_forget : am_Y := (yX2_forget, cX2_forget, 3, none)
set_option maxRecDepth 40000 in
theorem cwX2_forget : Cond.code MX2_forget.1 MX2_forget.2.1 MX2_forget.2.2.1 MX2_forget.2.2.2 ∈ am_tbl := am_in 423 rfl rfl
abbrev MX2_weigh : am_Y := (yX2_weigh, cX2_weigh, 5, none)
set_option maxRecDepth 40000 in
theorem cwX2_weigh : Cond.code MX2_weigh.1 MX2_weigh.2.1 MX2_weigh.2.2.1 MX2_weigh.2.2.2 ∈ am_tbl := am_in 427 rfl rfl
abbrev MX2_join : am_Y := (yX2_join, cX2_join, 5, none)
set_option maxRecDepth 40000 in
theorem cwX2_join : Cond.code MX2_join.1 MX2_join.2.1 MX2_join.2.2.1 MX2_join.2.2.2 ∈ am_tbl := am_in 434 rfl rfl
abbrev MX2_line : am_Y := (yX2_line, cX2_line, 4, none)
set_option maxRecDepth 40000 in
theorem cwX2_line : Cond.code MX2_line.1 MX2_line.2.1 MX2_line.2.2.1 MX2_line.2.2.2 ∈ am_tbl := am_in 439 rfl rfl
abbrev MX2_placeFor : am_Y := (yX2_placeFor, cX2_placeFor, 6, some FieldType.int)
set_option maxRecDepth 40000 in
theorem cwX2_placeFor : Cond.code MX2_placeFor.1 MX2_placeFor.2.1 MX2_placeFor.2.2.1 MX2_placeFor.2.2.2 ∈ am_tbl := am_in 443 rfl rfl
abbrev MX2_placesOf : am_Y := (yX2_placesOf, cX2_placesOf, 5, some FieldType.int)
set_option maxRecDepth 40000 in
theorem cwX2_placesOf : Cond.code MX2_placesOf.1 MX2_placesOf.2.1 MX2_placesOf.2.2.1 MX2_placesOf.2.2.2 ∈ am_tbl := am_in 447 rfl rfl
abbrev MX2_inSlot : am_Y := (yX2_inSlot, cX2_inSlot, 2, some FieldType.boolean)
set_option maxRecDepth 40000 in
theorem cwX2_inSlot : Cond.code MX2_inSlot.1 MX2_inSlot.2.1 MX2_inSlot.2.2.1 MX2_inSlot.2.2.2 ∈ am_tbl := am_in 451 rfl rfl
abbrev MX2_slotsOf : am_Y := (yX2_slotsOf, cX2_slotsOf, 3, some FieldType.int)
set_option maxRecDepth 40000 in
theorem cwX2_slotsOf : Cond.code MX2_slotsOf.1 MX2_slotsOf.2.1 MX2_slotsOf.2.2.1 MX2_slotsOf.2.2.2 ∈ am_tbl := am_in 549 rfl rfl
abbrev MX2_clash : am_Y := (yX2_clash, cX2_clash, 5, some FieldType.boolean)
set_option maxRecDepth 40000 in
theorem cwX2_clash : Cond.code MX2_clash.1 MX2_clash.2.1 MX2_clash.2.2.1 MX2_clash.2.2.2 ∈ am_tbl := am_in 628 rfl rfl
abbrev MX3_init : am_Y := (yX3_init, cX3_init, 2, none)
set_option maxRecDepth 40000 in
theorem cwX3_init : Cond.code MX3_init.1 MX3_init.2.1 MX3_init.2.2.1 MX3_init.2.2.2 ∈ am_tbl := am_in 80 rfl rfl
abbrev MX3_add : am_Y := (yX3_add, cX3_add, 5, none)
set_option maxRecDepth 40000 in
theorem cwX3_add : Cond.code MX3_add.1 MX3_add.2.1 MX3_add.2.2.1 MX3_add.2.2.2 ∈ am_tbl := am_in 342 rfl rfl
abbrev MX3_part : am_Y := (yX3_part, cX3_part, 3, some FieldType.int)
set_option maxRecDepth 40000 in
theorem cwX3_part : Cond.code MX3_part.1 MX3_part.2.1 MX3_part.2.2.1 MX3_part.2.2.2 ∈ am_tbl := am_in 352 rfl rfl
abbrev MX3_target : am_Y := (yX3_target, cX3_target, 2, some FieldType.int)
set_option maxRecDepth 40000 in
theorem cwX3_target : Cond.code MX3_target.1 MX3_target.2.1 MX3_target.2.2.1 MX3_target.2.2.2 ∈ am_tbl := am_in 389 rfl rfl
abbrev MX3_aim : am_Y := (yX3_aim, cX3_aim, 3, none)
set_option maxRecDepth 40000 in
theorem cwX3_aim : Cond.code MX3_aim.1 MX3_aim.2.1 MX3_aim.2.2.1 MX3_aim.2.2.2 ∈ am_tbl := am_in 487 rfl rfl
abbrev MX3_goesOn : am_Y := (yX3_goesOn, cX3_goesOn, 2, some FieldType.boolean)
set_option maxRecDepth 40000 in
theorem cwX3_goesOn : Cond.code MX3_goesOn.1 MX3_goesOn.2.1 MX3_goesOn.2.2.1 MX3_goesOn.2.2.2 ∈ am_tbl := am_in 397 rfl rfl
abbrev MX3_copy : am_Y := (yX3_copy, cX3_copy, 3, none)
set_option maxRecDepth 40000 in
theorem cwX3_copy : Cond.code MX3_copy.1 MX3_copy.2.1 MX3_copy.2.2.1 MX3_copy.2.2.2 ∈ am_tbl := am_in 491 rfl rfl
abbrev MX3_takeAway : am_Y := (yX3_takeAway, cX3_takeAway, 3, none)
set_option maxRecDepth 40000 in
theorem cwX3_takeAway : Cond.code MX3_takeAway.1 MX3_takeAway.2.1 MX3_takeAway.2.2.1 MX3_takeAway.2.2.2 ∈ am_tbl := am_in 519 rfl rfl
abbrev MX4_init : am_Y := (yX4_init, cX4_init, 1, none)
set_option maxRecDepth 40000 in
theorem cwX4_init : Cond.code MX4_init.1 MX4_init.2.1 MX4_init.2.2.1 MX4_init.2.2.2 ∈ am_tbl := am_in 232 rfl rfl
abbrev MX4_endsWithin : am_Y := (yX4_endsWithin, cX4_endsWithin, 5, some FieldType.boolean)
set_option maxRecDepth 40000 in
theorem cwX4_endsWithin : Cond.code MX4_endsWithin.1 MX4_endsWithin.2.1 MX4_endsWithin.2.2.1 MX4_endsWithin.2.2.2 ∈ am_tbl := am_in 575 rfl rfl
abbrev MX4_begin : am_Y := (yX4_begin, cX4_begin, 3, none)
set_option maxRecDepth 40000 in
theorem cwX4_begin : Cond.code MX4_begin.1 MX4_begin.2.1 MX4_begin.2.2.1 MX4_begin.2.2.2 ∈ am_tbl := am_in 579 rfl rfl
abbrev MX4_lineBehind : am_Y := (yX4_lineBehind, cX4_lineBehind, 4, some FieldType.int)
set_option maxRecDepth 40000 in
theorem cwX4_lineBehind : Cond.code MX4_lineBehind.1 MX4_lineBehind.2.1 MX4_lineBehind.2.2.1 MX4_lineBehind.2.2.2 ∈ am_tbl := am_in 583 rfl rfl
abbrev MX4_act : am_Y := (yX4_act, cX4_act, 5, none)
set_option maxRecDepth 40000 in
theorem cwX4_act : Cond.code MX4_act.1 MX4_act.2.1 MX4_act.2.2.1 MX4_act.2.2.2 ∈ am_tbl := am_in 587 rfl rfl
abbrev MX4_cellAt : am_Y := (yX4_cellAt, cX4_cellAt, 3, some FieldType.int)
set_option maxRecDepth 40000 in
theorem cwX4_cellAt : Cond.code MX4_cellAt.1 MX4_cellAt.2.1 MX4_cellAt.2.2.1 MX4_cellAt.2.2.2 ∈ am_tbl := am_in 591 rfl rfl
abbrev MX4_slotAt : am_Y := (yX4_slotAt, cX4_slotAt, 2, some FieldType.int)
set_option maxRecDepth 40000 in
theorem cwX4_slotAt : Cond.code MX4_slotAt.1 MX4_slotAt.2.1 MX4_slotAt.2.2.1 MX4_slotAt.2.2.2 ∈ am_tbl := am_in 601 rfl rfl
abbrev MX4_speak : am_Y := (yX4_speak, cX4_speak, 2, none)
set_option maxRecDepth 40000 in
theorem cwX4_speak : Cond.code MX4_speak.1 MX4_speak.2.1 MX4_speak.2.2.1 MX4_speak.2.2.2 ∈ am_tbl := am_in 598 rfl rfl
abbrev MX4_wordsKept : am_Y := (yX4_wordsKept, cX4_wordsKept, 1, some FieldType.int)
set_option maxRecDepth 40000 in
theorem cwX4_wordsKept : Cond.code MX4_wordsKept.1 MX4_wordsKept.2.1 MX4_wordsKept.2.2.1 MX4_wordsKept.2.2.2 ∈ am_tbl := am_in 613 rfl rfl
abbrev MX4_agreesWith : am_Y := (yX4_agreesWith, cX4_agreesWith, 3, some FieldType.boolean)
set_option maxRecDepth 40000 in
theorem cwX4_agreesWith : Cond.code MX4_agreesWith.1 MX4_agreesWith.2.1 MX4_agreesWith.2.2.1 MX4_agreesWith.2.2.2 ∈ am_tbl := am_in 632 rfl rfl
abbrev MX5_init : am_Y := (yX5_init, cX5_init, 1, none)
set_option maxRecDepth 40000 in
theorem cwX5_init : Cond.code MX5_init.1 MX5_init.2.1 MX5_init.2.2.1 MX5_init.2.2.2 ∈ am_tbl := am_in 74 rfl rfl
abbrev MX5_addValue : am_Y := (yX5_addValue, cX5_addValue, 2, some FieldType.int)
set_option maxRecDepth 40000 in
theorem cwX5_addValue : Cond.code MX5_addValue.1 MX5_addValue.2.1 MX5_addValue.2.2.1 MX5_addValue.2.2.2 ∈ am_tbl := am_in 304 rfl rfl
abbrev MX5_isValue : am_Y := (yX5_isValue, cX5_isValue, 2, some FieldType.boolean)
set_option maxRecDepth 40000 in
theorem cwX5_isValue : Cond.code MX5_isValue.1 MX5_isValue.2.1 MX5_isValue.2.2.1 MX5_isValue.2.2.2 ∈ am_tbl := am_in 328 rfl rfl
abbrev MX5_allows : am_Y := (yX5_allows, cX5_allows, 5, some FieldType.boolean)
set_option maxRecDepth 40000 in
theorem cwX5_allows : Cond.code MX5_allows.1 MX5_allows.2.1 MX5_allows.2.2.1 MX5_allows.2.2.2 ∈ am_tbl := am_in 315 rfl rfl
abbrev MX5_namesValues : am_Y := (yX5_namesValues, cX5_namesValues, 5, some FieldType.boolean)
set_option maxRecDepth 40000 in
theorem cwX5_namesValues : Cond.code MX5_namesValues.1 MX5_namesValues.2.1 MX5_namesValues.2.2.1 MX5_namesValues.2.2.2 ∈ am_tbl := am_in 321 rfl rfl
abbrev MX5_mayComeNext : am_Y := (yX5_mayComeNext, cX5_mayComeNext, 1, some FieldType.boolean)
set_option maxRecDepth 40000 in
theorem cwX5_mayComeNext : Cond.code MX5_mayComeNext.1 MX5_mayComeNext.2.1 MX5_mayComeNext.2.2.1 MX5_mayComeNext.2.2.2 ∈ am_tbl := am_in 334 rfl rfl
abbrev MX5_addStep : am_Y := (yX5_addStep, cX5_addStep, 6, some FieldType.int)
set_option maxRecDepth 40000 in
theorem cwX5_addStep : Cond.code MX5_addStep.1 MX5_addStep.2.1 MX5_addStep.2.2.1 MX5_addStep.2.2.2 ∈ am_tbl := am_in 338 rfl rfl
abbrev MX5_takenOf : am_Y := (yX5_takenOf, cX5_takenOf, 6, some FieldType.int)
set_option maxRecDepth 40000 in
theorem cwX5_takenOf : Cond.code MX5_takenOf.1 MX5_takenOf.2.1 MX5_takenOf.2.2.1 MX5_takenOf.2.2.2 ∈ am_tbl := am_in 346 rfl rfl
abbrev MX6_init : am_Y := (yX6_init, cX6_init, 1, none)
set_option maxRecDepth 40000 in
theorem cwX6_init : Cond.code MX6_init.1 MX6_init.2.1 MX6_init.2.2.1 MX6_init.2.2.2 ∈ am_tbl := am_in 219 rfl rfl
abbrev MX6_tidy : am_Y := (yX6_tidy, cX6_tidy, 4, none)
set_option maxRecDepth 40000 in
theorem cwX6_tidy : Cond.code MX6_tidy.1 MX6_tidy.2.1 MX6_tidy.2.2.1 MX6_tidy.2.2.2 ∈ am_tbl := am_in 496 rfl rfl
abbrev MX6_firstNeedless : am_Y := (yX6_firstNeedless, cX6_firstNeedless, 3, some FieldType.int)
set_option maxRecDepth 40000 in
theorem cwX6_firstNeedless : Cond.code MX6_firstNeedless.1 MX6_firstNeedless.2.1 MX6_firstNeedless.2.2.1 MX6_firstNeedless.2.2.2 ∈ am_tbl := am_in 500 rfl rfl
abbrev MX6_markLed : am_Y := (yX6_markLed, cX6_markLed, 3, none)
set_option maxRecDepth 40000 in
theorem cwX6_markLed : Cond.code MX6_markLed.1 MX6_markLed.2.1 MX6_markLed.2.2.1 MX6_markLed.2.2.2 ∈ am_tbl := am_in 504 rfl rfl
abbrev MX6_leadsToNext : am_Y := (yX6_leadsToNext, cX6_leadsToNext, 2, some FieldType.boolean)
set_option maxRecDepth 40000 in
theorem cwX6_leadsToNext : Cond.code MX6_leadsToNext.1 MX6_leadsToNext.2.1 MX6_leadsToNext.2.2.1 MX6_leadsToNext.2.2.2 ∈ am_tbl := am_in 508 rfl rfl
abbrev MX6_isIdleBehind : am_Y := (yX6_isIdleBehind, cX6_isIdleBehind, 2, some FieldType.boolean)
set_option maxRecDepth 40000 in
theorem cwX6_isIdleBehind : Cond.code MX6_isIdleBehind.1 MX6_isIdleBehind.2.1 MX6_isIdleBehind.2.2.1 MX6_isIdleBehind.2.2.2 ∈ am_tbl := am_in 511 rfl rfl
abbrev MX6_fetchesWhatWasKept : am_Y := (yX6_fetchesWhatWasKept, cX6_fetchesWhatWasKept, 2, some FieldType.boolean)
set_option maxRecDepth 40000 in
theorem cwX6_fetchesWhatWasKept : Cond.code MX6_fetchesWhatWasKept.1 MX6_fetchesWhatWasKept.2.1 MX6_fetchesWhatWasKept.2.2.1 MX6_fetchesWhatWasKept.2.2.2 ∈ am_tbl := am_in 515 rfl rfl
abbrev MX7_init : am_Y := (yX7_init, cX7_init, 1, none)
set_option maxRecDepth 40000 in
theorem cwX7_init : Cond.code MX7_init.1 MX7_init.2.1 MX7_init.2.2.1 MX7_init.2.2.2 ∈ am_tbl := am_in 66 rfl rfl
abbrev MX7_value : am_Y := (yX7_value, cX7_value, 2, some FieldType.int)
set_option maxRecDepth 40000 in
theorem cwX7_value : Cond.code MX7_value.1 MX7_value.2.1 MX7_value.2.2.1 MX7_value.2.2.2 ∈ am_tbl := am_in 297 rfl rfl
abbrev MX7_put : am_Y := (yX7_put, cX7_put, 5, some FieldType.int)
set_option maxRecDepth 40000 in
theorem cwX7_put : Cond.code MX7_put.1 MX7_put.2.1 MX7_put.2.2.1 MX7_put.2.2.2 ∈ am_tbl := am_in 311 rfl rfl
abbrev MX7_clear : am_Y := (yX7_clear, cX7_clear, 2, some FieldType.int)
set_option maxRecDepth 40000 in
theorem cwX7_clear : Cond.code MX7_clear.1 MX7_clear.2.1 MX7_clear.2.2.1 MX7_clear.2.2.2 ∈ am_tbl := am_in 356 rfl rfl
abbrev MX7_registers : am_Y := (yX7_registers, cX7_registers, 3, some FieldType.int)
set_option maxRecDepth 40000 in
theorem cwX7_registers : Cond.code MX7_registers.1 MX7_registers.2.1 MX7_registers.2.2.1 MX7_registers.2.2.2 ∈ am_tbl := am_in 360 rfl rfl
abbrev MX7_memory : am_Y := (yX7_memory, cX7_memory, 3, some FieldType.int)
set_option maxRecDepth 40000 in
theorem cwX7_memory : Cond.code MX7_memory.1 MX7_memory.2.1 MX7_memory.2.2.1 MX7_memory.2.2.2 ∈ am_tbl := am_in 364 rfl rfl
abbrev MX7_live : am_Y := (yX7_live, cX7_live, 2, some FieldType.int)
set_option maxRecDepth 40000 in
theorem cwX7_live : Cond.code MX7_live.1 MX7_live.2.1 MX7_live.2.2.1 MX7_live.2.2.2 ∈ am_tbl := am_in 369 rfl rfl
abbrev MX7_inWay : am_Y := (yX7_inWay, cX7_inWay, 2, some FieldType.int)
set_option maxRecDepth 40000 in
theorem cwX7_inWay : Cond.code MX7_inWay.1 MX7_inWay.2.1 MX7_inWay.2.2.1 MX7_inWay.2.2.2 ∈ am_tbl := am_in 528 rfl rfl
abbrev MX7_weight : am_Y := (yX7_weight, cX7_weight, 2, some FieldType.int)
set_option maxRecDepth 40000 in
theorem cwX7_weight : Cond.code MX7_weight.1 MX7_weight.2.1 MX7_weight.2.2.1 MX7_weight.2.2.2 ∈ am_tbl := am_in 533 rfl rfl
abbrev MX7_home : am_Y := (yX7_home, cX7_home, 2, some FieldType.int)
set_option maxRecDepth 40000 in
theorem cwX7_home : Cond.code MX7_home.1 MX7_home.2.1 MX7_home.2.2.1 MX7_home.2.2.2 ∈ am_tbl := am_in 537 rfl rfl
abbrev MX7_order : am_Y := (yX7_order, cX7_order, 2, some FieldType.int)
set_option maxRecDepth 40000 in
theorem cwX7_order : Cond.code MX7_order.1 MX7_order.2.1 MX7_order.2.2.1 MX7_order.2.2.2 ∈ am_tbl := am_in 541 rfl rfl
abbrev MX7_count : am_Y := (yX7_count, cX7_count, 2, some FieldType.int)
set_option maxRecDepth 40000 in
theorem cwX7_count : Cond.code MX7_count.1 MX7_count.2.1 MX7_count.2.2.1 MX7_count.2.2.2 ∈ am_tbl := am_in 545 rfl rfl
abbrev MX7_item : am_Y := (yX7_item, cX7_item, 5, some FieldType.int)
set_option maxRecDepth 40000 in
theorem cwX7_item : Cond.code MX7_item.1 MX7_item.2.1 MX7_item.2.2.1 MX7_item.2.2.2 ∈ am_tbl := am_in 559 rfl rfl
abbrev MX7_run : am_Y := (yX7_run, cX7_run, 3, some FieldType.int)
set_option maxRecDepth 40000 in
theorem cwX7_run : Cond.code MX7_run.1 MX7_run.2.1 MX7_run.2.2.1 MX7_run.2.2.2 ∈ am_tbl := am_in 571 rfl rfl
abbrev MX7_made : am_Y := (yX7_made, cX7_made, 2, some FieldType.int)
set_option maxRecDepth 40000 in
theorem cwX7_made : Cond.code MX7_made.1 MX7_made.2.1 MX7_made.2.2.1 MX7_made.2.2.2 ∈ am_tbl := am_in 605 rfl rfl
abbrev MX7_said : am_Y := (yX7_said, cX7_said, 2, some FieldType.int)
set_option maxRecDepth 40000 in
theorem cwX7_said : Cond.code MX7_said.1 MX7_said.2.1 MX7_said.2.2.1 MX7_said.2.2.2 ∈ am_tbl := am_in 609 rfl rfl
abbrev MX7_cell : am_Y := (yX7_cell, cX7_cell, 2, some FieldType.int)
set_option maxRecDepth 40000 in
theorem cwX7_cell : Cond.code MX7_cell.1 MX7_cell.2.1 MX7_cell.2.2.1 MX7_cell.2.2.2 ∈ am_tbl := am_in 620 rfl rfl
abbrev MX7_check : am_Y := (yX7_check, cX7_check, 2, some FieldType.int)
set_option maxRecDepth 40000 in
theorem cwX7_check : Cond.code MX7_check.1 MX7_check.2.1 MX7_check.2.2.1 MX7_check.2.2.2 ∈ am_tbl := am_in 624 rfl rfl
abbrev MX7_isClass : am_Y := (yX7_isClass, cX7_isClass, 1, some FieldType.boolean)
set_option maxRecDepth 40000 in
theorem cwX7_isClass : Cond.code MX7_isClass.1 MX7_isClass.2.1 MX7_isClass.2.2.1 MX7_isClass.2.2.2 ∈ am_tbl := am_in 300 rfl rfl
abbrev MX7_isCell : am_Y := (yX7_isCell, cX7_isCell, 1, some FieldType.boolean)
set_option maxRecDepth 40000 in
theorem cwX7_isCell : Cond.code MX7_isCell.1 MX7_isCell.2.1 MX7_isCell.2.2.1 MX7_isCell.2.2.2 ∈ am_tbl := am_in 331 rfl rfl
abbrev MX7_stageOf : am_Y := (yX7_stageOf, cX7_stageOf, 1, some FieldType.int)
set_option maxRecDepth 40000 in
theorem cwX7_stageOf : Cond.code MX7_stageOf.1 MX7_stageOf.2.1 MX7_stageOf.2.2.1 MX7_stageOf.2.2.2 ∈ am_tbl := am_in 562 rfl rfl
abbrev MX7_listingOf : am_Y := (yX7_listingOf, cX7_listingOf, 2, some (FieldType.object "RegisterHouse$Listing"))
set_option maxRecDepth 40000 in
theorem cwX7_listingOf : Cond.code MX7_listingOf.1 MX7_listingOf.2.1 MX7_listingOf.2.2.1 MX7_listingOf.2.2.2 ∈ am_tbl := am_in 566 rfl rfl
abbrev MX7_workOut : am_Y := (yX7_workOut, cX7_workOut, 2, none)
set_option maxRecDepth 40000 in
theorem cwX7_workOut : Cond.code MX7_workOut.1 MX7_workOut.2.1 MX7_workOut.2.2.1 MX7_workOut.2.2.2 ∈ am_tbl := am_in 373 rfl rfl
abbrev MX7_bit : am_Y := (yX7_bit, cX7_bit, 1, some FieldType.int)
set_option maxRecDepth 40000 in
theorem cwX7_bit : Cond.code MX7_bit.1 MX7_bit.2.1 MX7_bit.2.2.1 MX7_bit.2.2.2 ∈ am_tbl := am_in 307 rfl rfl
abbrev MX7_bitIfThere : am_Y := (yX7_bitIfThere, cX7_bitIfThere, 1, some FieldType.int)
set_option maxRecDepth 40000 in
theorem cwX7_bitIfThere : Cond.code MX7_bitIfThere.1 MX7_bitIfThere.2.1 MX7_bitIfThere.2.2.1 MX7_bitIfThere.2.2.2 ∈ am_tbl := am_in 400 rfl rfl
abbrev MX7_has : am_Y := (yX7_has, cX7_has, 2, some FieldType.boolean)
set_option maxRecDepth 40000 in
theorem cwX7_has : Cond.code MX7_has.1 MX7_has.2.1 MX7_has.2.2.1 MX7_has.2.2.2 ∈ am_tbl := am_in 324 rfl rfl
abbrev MX7_leastOf : am_Y := (yX7_leastOf, cX7_leastOf, 2, some FieldType.int)
set_option maxRecDepth 40000 in
theorem cwX7_leastOf : Cond.code MX7_leastOf.1 MX7_leastOf.2.1 MX7_leastOf.2.2.1 MX7_leastOf.2.2.2 ∈ am_tbl := am_in 454 rfl rfl
abbrev MX8_init : am_Y := (yX8_init, cX8_init, 1, none)
set_option maxRecDepth 40000 in
theorem cwX8_init : Cond.code MX8_init.1 MX8_init.2.1 MX8_init.2.2.1 MX8_init.2.2.2 ∈ am_tbl := am_in 638 rfl rfl
abbrev MX8_value : am_Y := (yX8_value, cX8_value, 2, some FieldType.int)
set_option maxRecDepth 40000 in
theorem cwX8_value : Cond.code MX8_value.1 MX8_value.2.1 MX8_value.2.2.1 MX8_value.2.2.2 ∈ am_tbl := am_in 728 rfl rfl
abbrev MX8_isValue : am_Y := (yX8_isValue, cX8_isValue, 2, some FieldType.boolean)
set_option maxRecDepth 40000 in
theorem cwX8_isValue : Cond.code MX8_isValue.1 MX8_isValue.2.1 MX8_isValue.2.2.1 MX8_isValue.2.2.2 ∈ am_tbl := am_in 740 rfl rfl
abbrev MX8_isOf : am_Y := (yX8_isOf, cX8_isOf, 3, some FieldType.boolean)
set_option maxRecDepth 40000 in
theorem cwX8_isOf : Cond.code MX8_isOf.1 MX8_isOf.2.1 MX8_isOf.2.2.1 MX8_isOf.2.2.2 ∈ am_tbl := am_in 744 rfl rfl
abbrev MX8_mayBe : am_Y := (yX8_mayBe, cX8_mayBe, 5, some FieldType.boolean)
set_option maxRecDepth 40000 in
theorem cwX8_mayBe : Cond.code MX8_mayBe.1 MX8_mayBe.2.1 MX8_mayBe.2.2.1 MX8_mayBe.2.2.2 ∈ am_tbl := am_in 736 rfl rfl
abbrev MX8_put : am_Y := (yX8_put, cX8_put, 5, some FieldType.int)
set_option maxRecDepth 40000 in
theorem cwX8_put : Cond.code MX8_put.1 MX8_put.2.1 MX8_put.2.2.1 MX8_put.2.2.2 ∈ am_tbl := am_in 732 rfl rfl
abbrev MX8_clear : am_Y := (yX8_clear, cX8_clear, 2, some FieldType.int)
set_option maxRecDepth 40000 in
theorem cwX8_clear : Cond.code MX8_clear.1 MX8_clear.2.1 MX8_clear.2.2.1 MX8_clear.2.2.2 ∈ am_tbl := am_in 748 rfl rfl
abbrev MX8_registers : am_Y := (yX8_registers, cX8_registers, 3, some FieldType.int)
set_option maxRecDepth 40000 in
theorem cwX8_registers : Cond.code MX8_registers.1 MX8_registers.2.1 MX8_registers.2.2.1 MX8_registers.2.2.2 ∈ am_tbl := am_in 752 rfl rfl
abbrev MX8_memory : am_Y := (yX8_memory, cX8_memory, 3, some FieldType.int)
set_option maxRecDepth 40000 in
theorem cwX8_memory : Cond.code MX8_memory.1 MX8_memory.2.1 MX8_memory.2.2.1 MX8_memory.2.2.2 ∈ am_tbl := am_in 756 rfl rfl
abbrev MX8_taken : am_Y := (yX8_taken, cX8_taken, 4, some FieldType.int)
set_option maxRecDepth 40000 in
theorem cwX8_taken : Cond.code MX8_taken.1 MX8_taken.2.1 MX8_taken.2.2.1 MX8_taken.2.2.2 ∈ am_tbl := am_in 780 rfl rfl
abbrev MX8_anew : am_Y := (yX8_anew, cX8_anew, 2, some FieldType.int)
set_option maxRecDepth 40000 in
theorem cwX8_anew : Cond.code MX8_anew.1 MX8_anew.2.1 MX8_anew.2.2.1 MX8_anew.2.2.2 ∈ am_tbl := am_in 772 rfl rfl
abbrev MX8_taking : am_Y := (yX8_taking, cX8_taking, 5, some FieldType.int)
set_option maxRecDepth 40000 in
theorem cwX8_taking : Cond.code MX8_taking.1 MX8_taking.2.1 MX8_taking.2.2.1 MX8_taking.2.2.2 ∈ am_tbl := am_in 776 rfl rfl
abbrev MX8_liveAt : am_Y := (yX8_liveAt, cX8_liveAt, 2, some FieldType.int)
set_option maxRecDepth 40000 in
theorem cwX8_liveAt : Cond.code MX8_liveAt.1 MX8_liveAt.2.1 MX8_liveAt.2.2.1 MX8_liveAt.2.2.2 ∈ am_tbl := am_in 768 rfl rfl
abbrev MX8_flow : am_Y := (yX8_flow, cX8_flow, 7, none)
set_option maxRecDepth 40000 in
theorem cwX8_flow : Cond.code MX8_flow.1 MX8_flow.2.1 MX8_flow.2.2.1 MX8_flow.2.2.2 ∈ am_tbl := am_in 764 rfl rfl
abbrev MX8_meet : am_Y := (yX8_meet, cX8_meet, 5, none)
set_option maxRecDepth 40000 in
theorem cwX8_meet : Cond.code MX8_meet.1 MX8_meet.2.1 MX8_meet.2.2.1 MX8_meet.2.2.2 ∈ am_tbl := am_in 788 rfl rfl
abbrev MX8_isJoined : am_Y := (yX8_isJoined, cX8_isJoined, 5, some FieldType.boolean)
set_option maxRecDepth 40000 in
theorem cwX8_isJoined : Cond.code MX8_isJoined.1 MX8_isJoined.2.1 MX8_isJoined.2.2.1 MX8_isJoined.2.2.2 ∈ am_tbl := am_in 808 rfl rfl
abbrev MX8_isFree : am_Y := (yX8_isFree, cX8_isFree, 5, some FieldType.boolean)
set_option maxRecDepth 40000 in
theorem cwX8_isFree : Cond.code MX8_isFree.1 MX8_isFree.2.1 MX8_isFree.2.2.1 MX8_isFree.2.2.2 ∈ am_tbl := am_in 812 rfl rfl
abbrev MX8_homeFor : am_Y := (yX8_homeFor, cX8_homeFor, 6, some FieldType.int)
set_option maxRecDepth 40000 in
theorem cwX8_homeFor : Cond.code MX8_homeFor.1 MX8_homeFor.2.1 MX8_homeFor.2.2.1 MX8_homeFor.2.2.2 ∈ am_tbl := am_in 804 rfl rfl
abbrev MX8_settle : am_Y := (yX8_settle, cX8_settle, 3, none)
set_option maxRecDepth 40000 in
theorem cwX8_settle : Cond.code MX8_settle.1 MX8_settle.2.1 MX8_settle.2.2.1 MX8_settle.2.2.2 ∈ am_tbl := am_in 800 rfl rfl
abbrev MX8_lay : am_Y := (yX8_lay, cX8_lay, 6, none)
set_option maxRecDepth 40000 in
theorem cwX8_lay : Cond.code MX8_lay.1 MX8_lay.2.1 MX8_lay.2.2.1 MX8_lay.2.2.2 ∈ am_tbl := am_in 839 rfl rfl
abbrev MX8_register : am_Y := (yX8_register, cX8_register, 2, some FieldType.int)
set_option maxRecDepth 40000 in
theorem cwX8_register : Cond.code MX8_register.1 MX8_register.2.1 MX8_register.2.2.1 MX8_register.2.2.2 ∈ am_tbl := am_in 835 rfl rfl
abbrev MX8_fetch : am_Y := (yX8_fetch, cX8_fetch, 4, none)
set_option maxRecDepth 40000 in
theorem cwX8_fetch : Cond.code MX8_fetch.1 MX8_fetch.2.1 MX8_fetch.2.2.1 MX8_fetch.2.2.2 ∈ am_tbl := am_in 832 rfl rfl
abbrev MX8_from : am_Y := (yX8_from, cX8_from, 4, some FieldType.int)
set_option maxRecDepth 40000 in
theorem cwX8_from : Cond.code MX8_from.1 MX8_from.2.1 MX8_from.2.2.1 MX8_from.2.2.2 ∈ am_tbl := am_in 847 rfl rfl
abbrev MX8_to : am_Y := (yX8_to, cX8_to, 2, some FieldType.int)
set_option maxRecDepth 40000 in
theorem cwX8_to : Cond.code MX8_to.1 MX8_to.2.1 MX8_to.2.2.1 MX8_to.2.2.2 ∈ am_tbl := am_in 843 rfl rfl
abbrev MX8_makeStep : am_Y := (yX8_makeStep, cX8_makeStep, 8, none)
set_option maxRecDepth 40000 in
theorem cwX8_makeStep : Cond.code MX8_makeStep.1 MX8_makeStep.2.1 MX8_makeStep.2.2.1 MX8_makeStep.2.2.2 ∈ am_tbl := am_in 828 rfl rfl
abbrev MX8_makeCode : am_Y := (yX8_makeCode, cX8_makeCode, 3, none)
set_option maxRecDepth 40000 in
theorem cwX8_makeCode : Cond.code MX8_makeCode.1 MX8_makeCode.2.1 MX8_makeCode.2.2.1 MX8_makeCode.2.2.2 ∈ am_tbl := am_in 824 rfl rfl
abbrev MX8_leads : am_Y := (yX8_leads, cX8_leads, 3, some FieldType.int)
set_option maxRecDepth 40000 in
theorem cwX8_leads : Cond.code MX8_leads.1 MX8_leads.2.1 MX8_leads.2.2.1 MX8_leads.2.2.2 ∈ am_tbl := am_in 855 rfl rfl
abbrev MX8_isLedTo : am_Y := (yX8_isLedTo, cX8_isLedTo, 4, some FieldType.boolean)
set_option maxRecDepth 40000 in
theorem cwX8_isLedTo : Cond.code MX8_isLedTo.1 MX8_isLedTo.2.1 MX8_isLedTo.2.2.1 MX8_isLedTo.2.2.2 ∈ am_tbl := am_in 859 rfl rfl
abbrev MX8_needless : am_Y := (yX8_needless, cX8_needless, 6, some FieldType.int)
set_option maxRecDepth 40000 in
theorem cwX8_needless : Cond.code MX8_needless.1 MX8_needless.2.1 MX8_needless.2.2.1 MX8_needless.2.2.2 ∈ am_tbl := am_in 851 rfl rfl
abbrev MX8_take : am_Y := (yX8_take, cX8_take, 4, none)
set_option maxRecDepth 40000 in
theorem cwX8_take : Cond.code MX8_take.1 MX8_take.2.1 MX8_take.2.2.1 MX8_take.2.2.2 ∈ am_tbl := am_in 863 rfl rfl
abbrev MX8_live : am_Y := (yX8_live, cX8_live, 2, some FieldType.int)
set_option maxRecDepth 40000 in
theorem cwX8_live : Cond.code MX8_live.1 MX8_live.2.1 MX8_live.2.2.1 MX8_live.2.2.2 ∈ am_tbl := am_in 760 rfl rfl
abbrev MX8_inWay : am_Y := (yX8_inWay, cX8_inWay, 2, some FieldType.int)
set_option maxRecDepth 40000 in
theorem cwX8_inWay : Cond.code MX8_inWay.1 MX8_inWay.2.1 MX8_inWay.2.2.1 MX8_inWay.2.2.2 ∈ am_tbl := am_in 784 rfl rfl
abbrev MX8_weight : am_Y := (yX8_weight, cX8_weight, 2, some FieldType.int)
set_option maxRecDepth 40000 in
theorem cwX8_weight : Cond.code MX8_weight.1 MX8_weight.2.1 MX8_weight.2.2.1 MX8_weight.2.2.2 ∈ am_tbl := am_in 792 rfl rfl
abbrev MX8_home : am_Y := (yX8_home, cX8_home, 2, some FieldType.int)
set_option maxRecDepth 40000 in
theorem cwX8_home : Cond.code MX8_home.1 MX8_home.2.1 MX8_home.2.2.1 MX8_home.2.2.2 ∈ am_tbl := am_in 796 rfl rfl
abbrev MX8_order : am_Y := (yX8_order, cX8_order, 2, some FieldType.int)
set_option maxRecDepth 40000 in
theorem cwX8_order : Cond.code MX8_order.1 MX8_order.2.1 MX8_order.2.2.1 MX8_order.2.2.2 ∈ am_tbl := am_in 816 rfl rfl
abbrev MX8_slotsOf : am_Y := (yX8_slotsOf, cX8_slotsOf, 6, some FieldType.int)
set_option maxRecDepth 40000 in
theorem cwX8_slotsOf : Cond.code MX8_slotsOf.1 MX8_slotsOf.2.1 MX8_slotsOf.2.2.1 MX8_slotsOf.2.2.2 ∈ am_tbl := am_in 867 rfl rfl
abbrev MX8_count : am_Y := (yX8_count, cX8_count, 2, some FieldType.int)
set_option maxRecDepth 40000 in
theorem cwX8_count : Cond.code MX8_count.1 MX8_count.2.1 MX8_count.2.2.1 MX8_count.2.2.2 ∈ am_tbl := am_in 820 rfl rfl
abbrev MX8_item : am_Y := (yX8_item, cX8_item, 4, some FieldType.int)
set_option maxRecDepth 40000 in
theorem cwX8_item : Cond.code MX8_item.1 MX8_item.2.1 MX8_item.2.2.1 MX8_item.2.2.2 ∈ am_tbl := am_in 871 rfl rfl
abbrev MX8_begin : am_Y := (yX8_begin, cX8_begin, 2, none)
set_option maxRecDepth 40000 in
theorem cwX8_begin : Cond.code MX8_begin.1 MX8_begin.2.1 MX8_begin.2.2.1 MX8_begin.2.2.2 ∈ am_tbl := am_in 879 rfl rfl
abbrev MX8_say : am_Y := (yX8_say, cX8_say, 2, none)
set_option maxRecDepth 40000 in
theorem cwX8_say : Cond.code MX8_say.1 MX8_say.2.1 MX8_say.2.2.1 MX8_say.2.2.2 ∈ am_tbl := am_in 890 rfl rfl
abbrev MX8_reckoned : am_Y := (yX8_reckoned, cX8_reckoned, 3, some FieldType.int)
set_option maxRecDepth 40000 in
theorem cwX8_reckoned : Cond.code MX8_reckoned.1 MX8_reckoned.2.1 MX8_reckoned.2.2.1 MX8_reckoned.2.2.2 ∈ am_tbl := am_in 886 rfl rfl
abbrev MX8_doStep : am_Y := (yX8_doStep, cX8_doStep, 5, some FieldType.int)
set_option maxRecDepth 40000 in
theorem cwX8_doStep : Cond.code MX8_doStep.1 MX8_doStep.2.1 MX8_doStep.2.2.1 MX8_doStep.2.2.2 ∈ am_tbl := am_in 883 rfl rfl
abbrev MX8_doItem : am_Y := (yX8_doItem, cX8_doItem, 7, some FieldType.int)
set_option maxRecDepth 40000 in
theorem cwX8_doItem : Cond.code MX8_doItem.1 MX8_doItem.2.1 MX8_doItem.2.2.1 MX8_doItem.2.2.2 ∈ am_tbl := am_in 894 rfl rfl
abbrev MX8_run : am_Y := (yX8_run, cX8_run, 5, some FieldType.int)
set_option maxRecDepth 40000 in
theorem cwX8_run : Cond.code MX8_run.1 MX8_run.2.1 MX8_run.2.2.1 MX8_run.2.2.2 ∈ am_tbl := am_in 875 rfl rfl
abbrev MX8_made : am_Y := (yX8_made, cX8_made, 2, some FieldType.int)
set_option maxRecDepth 40000 in
theorem cwX8_made : Cond.code MX8_made.1 MX8_made.2.1 MX8_made.2.2.1 MX8_made.2.2.2 ∈ am_tbl := am_in 898 rfl rfl
abbrev MX8_said : am_Y := (yX8_said, cX8_said, 2, some FieldType.int)
set_option maxRecDepth 40000 in
theorem cwX8_said : Cond.code MX8_said.1 MX8_said.2.1 MX8_said.2.2.1 MX8_said.2.2.2 ∈ am_tbl := am_in 902 rfl rfl
abbrev MX8_cell : am_Y := (yX8_cell, cX8_cell, 2, some FieldType.int)
set_option maxRecDepth 40000 in
theorem cwX8_cell : Cond.code MX8_cell.1 MX8_cell.2.1 MX8_cell.2.2.1 MX8_cell.2.2.2 ∈ am_tbl := am_in 906 rfl rfl
abbrev MX8_check : am_Y := (yX8_check, cX8_check, 1, some FieldType.int)
set_option maxRecDepth 40000 in
theorem cwX8_check : Cond.code MX8_check.1 MX8_check.2.1 MX8_check.2.2.1 MX8_check.2.2.2 ∈ am_tbl := am_in 910 rfl rfl
abbrev MJ6_bitCount_0f7a4 : am_Y := (yJ6_bitCount_0f7a4, cJ6_bitCount_0f7a4, 1, some FieldType.int)
set_option maxRecDepth 40000 in
theorem cwJ6_bitCount_0f7a4 : Cond.code MJ6_bitCount_0f7a4.1 MJ6_bitCount_0f7a4.2.1 MJ6_bitCount_0f7a4.2.2.1 MJ6_bitCount_0f7a4.2.2.2 ∈ am_tbl := am_in 552 rfl rfl
abbrev MJ9_floorMod_7cf53 : am_Y := (yJ9_floorMod_7cf53, cJ9_floorMod_7cf53, 3, some FieldType.int)
set_option maxRecDepth 40000 in
theorem cwJ9_floorMod_7cf53 : Cond.code MJ9_floorMod_7cf53.1 MJ9_floorMod_7cf53.2.1 MJ9_floorMod_7cf53.2.2.1 MJ9_floorMod_7cf53.2.2.2 ∈ am_tbl := am_in 594 rfl rfl
abbrev MJ9_max_7cf53 : am_Y := (yJ9_max_7cf53, cJ9_max_7cf53, 2, some FieldType.int)
set_option maxRecDepth 40000 in
theorem cwJ9_max_7cf53 : Cond.code MJ9_max_7cf53.1 MJ9_max_7cf53.2.1 MJ9_max_7cf53.2.2.1 MJ9_max_7cf53.2.2.2 ∈ am_tbl := am_in 524 rfl rfl
abbrev MJ9_min_7cf53 : am_Y := (yJ9_min_7cf53, cJ9_min_7cf53, 2, some FieldType.int)
set_option maxRecDepth 40000 in
theorem cwJ9_min_7cf53 : Cond.code MJ9_min_7cf53.1 MJ9_min_7cf53.2.1 MJ9_min_7cf53.2.2.1 MJ9_min_7cf53.2.2.2 ∈ am_tbl := am_in 616 rfl rfl
