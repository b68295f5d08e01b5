section
-- ===== PART A: goes FIRST, ahead of the names: the tables' words, and 'selects' of the private methods out of them =====
/-- a private method of a class that the tables say can be made, by its rows of tables_1 -/
def lw_okq (q : MethodName × Nat) : Prop := (q.1.cls ≠ "java/lang/invoke/MethodHandle" ∧ q.1.cls ≠ "java/lang/invoke/VarHandle") ∧ Cond.instantiable q.1.cls q.2 ∈ tables_1 ∧ Cond.privateMethod q.1 ∈ tables_1 ∧ Cond.instanceMethod q.1 ∈ tables_1
theorem lw_p0 : lw_okq (⟨"RegisterHouse$Program", "namesValues", "(IIII)Z"⟩, 7) := ⟨⟨by decide +kernel, by decide +kernel⟩, List.mem_of_getElem? (i := 21) (by decide +kernel), List.mem_of_getElem? (i := 269) (by decide +kernel), List.mem_of_getElem? (i := 270) (by decide +kernel)⟩
theorem lw_p1 : lw_okq (⟨"RegisterHouse$Program", "takenOf", "(II)I"⟩, 7) := ⟨⟨by decide +kernel, by decide +kernel⟩, List.mem_of_getElem? (i := 21) (by decide +kernel), List.mem_of_getElem? (i := 294) (by decide +kernel), List.mem_of_getElem? (i := 295) (by decide +kernel)⟩
theorem lw_p2 : lw_okq (⟨"RegisterHouse", "workOut", "(I)V"⟩, 12) := ⟨⟨by decide +kernel, by decide +kernel⟩, List.mem_of_getElem? (i := 13) (by decide +kernel), List.mem_of_getElem? (i := 321) (by decide +kernel), List.mem_of_getElem? (i := 322) (by decide +kernel)⟩
theorem lw_p3 : lw_okq (⟨"RegisterHouse$Flow", "liveBefore", "(LRegisterHouse$Program;I)I"⟩, 2) := ⟨⟨by decide +kernel, by decide +kernel⟩, List.mem_of_getElem? (i := 114) (by decide +kernel), List.mem_of_getElem? (i := 329) (by decide +kernel), List.mem_of_getElem? (i := 330) (by decide +kernel)⟩
theorem lw_p4 : lw_okq (⟨"RegisterHouse$Flow", "behind", "(LRegisterHouse$Listing;I)I"⟩, 2) := ⟨⟨by decide +kernel, by decide +kernel⟩, List.mem_of_getElem? (i := 114) (by decide +kernel), List.mem_of_getElem? (i := 333) (by decide +kernel), List.mem_of_getElem? (i := 334) (by decide +kernel)⟩
theorem lw_p5 : lw_okq (⟨"RegisterHouse$Flow", "beforeIfThere", "(LRegisterHouse$Listing;I)I"⟩, 2) := ⟨⟨by decide +kernel, by decide +kernel⟩, List.mem_of_getElem? (i := 114) (by decide +kernel), List.mem_of_getElem? (i := 341) (by decide +kernel), List.mem_of_getElem? (i := 342) (by decide +kernel)⟩
theorem lw_p6 : lw_okq (⟨"RegisterHouse$Flow", "blockedIn", "(LRegisterHouse$Program;II)I"⟩, 2) := ⟨⟨by decide +kernel, by decide +kernel⟩, List.mem_of_getElem? (i := 114) (by decide +kernel), List.mem_of_getElem? (i := 357) (by decide +kernel), List.mem_of_getElem? (i := 358) (by decide +kernel)⟩
theorem lw_p7 : lw_okq (⟨"RegisterHouse$Flow", "blockAll", "(II)V"⟩, 2) := ⟨⟨by decide +kernel, by decide +kernel⟩, List.mem_of_getElem? (i := 114) (by decide +kernel), List.mem_of_getElem? (i := 362) (by decide +kernel), List.mem_of_getElem? (i := 363) (by decide +kernel)⟩
theorem lw_p8 : lw_okq (⟨"RegisterHouse$Homes", "forget", "(I)V"⟩, 5) := ⟨⟨by decide +kernel, by decide +kernel⟩, List.mem_of_getElem? (i := 129) (by decide +kernel), List.mem_of_getElem? (i := 371) (by decide +kernel), List.mem_of_getElem? (i := 372) (by decide +kernel)⟩
theorem lw_p9 : lw_okq (⟨"RegisterHouse$Homes", "weigh", "(LRegisterHouse$Listing;I)V"⟩, 5) := ⟨⟨by decide +kernel, by decide +kernel⟩, List.mem_of_getElem? (i := 129) (by decide +kernel), List.mem_of_getElem? (i := 375) (by decide +kernel), List.mem_of_getElem? (i := 376) (by decide +kernel)⟩
theorem lw_p10 : lw_okq (⟨"RegisterHouse$Homes", "join", "(LRegisterHouse$Program;I)V"⟩, 5) := ⟨⟨by decide +kernel, by decide +kernel⟩, List.mem_of_getElem? (i := 129) (by decide +kernel), List.mem_of_getElem? (i := 382) (by decide +kernel), List.mem_of_getElem? (i := 383) (by decide +kernel)⟩
theorem lw_p11 : lw_okq (⟨"RegisterHouse$Homes", "line", "(I)V"⟩, 5) := ⟨⟨by decide +kernel, by decide +kernel⟩, List.mem_of_getElem? (i := 129) (by decide +kernel), List.mem_of_getElem? (i := 387) (by decide +kernel), List.mem_of_getElem? (i := 388) (by decide +kernel)⟩
theorem lw_p12 : lw_okq (⟨"RegisterHouse$Homes", "placeFor", "(III)I"⟩, 5) := ⟨⟨by decide +kernel, by decide +kernel⟩, List.mem_of_getElem? (i := 129) (by decide +kernel), List.mem_of_getElem? (i := 391) (by decide +kernel), List.mem_of_getElem? (i := 392) (by decide +kernel)⟩
theorem lw_p13 : lw_okq (⟨"RegisterHouse$Homes", "placesOf", "(II)I"⟩, 5) := ⟨⟨by decide +kernel, by decide +kernel⟩, List.mem_of_getElem? (i := 129) (by decide +kernel), List.mem_of_getElem? (i := 395) (by decide +kernel), List.mem_of_getElem? (i := 396) (by decide +kernel)⟩
theorem lw_p14 : lw_okq (⟨"RegisterHouse$Tidier", "firstNeedless", "(LRegisterHouse$Listing;)I"⟩, 1) := ⟨⟨by decide +kernel, by decide +kernel⟩, List.mem_of_getElem? (i := 166) (by decide +kernel), List.mem_of_getElem? (i := 448) (by decide +kernel), List.mem_of_getElem? (i := 449) (by decide +kernel)⟩
theorem lw_p15 : lw_okq (⟨"RegisterHouse$Tidier", "markLed", "(LRegisterHouse$Listing;)V"⟩, 1) := ⟨⟨by decide +kernel, by decide +kernel⟩, List.mem_of_getElem? (i := 166) (by decide +kernel), List.mem_of_getElem? (i := 452) (by decide +kernel), List.mem_of_getElem? (i := 453) (by decide +kernel)⟩
def lw_privs_1 : List (MethodName × Nat) := [(⟨"RegisterHouse$Program", "namesValues", "(IIII)Z"⟩, 7), (⟨"RegisterHouse$Program", "takenOf", "(II)I"⟩, 7), (⟨"RegisterHouse", "workOut", "(I)V"⟩, 12), (⟨"RegisterHouse$Flow", "liveBefore", "(LRegisterHouse$Program;I)I"⟩, 2), (⟨"RegisterHouse$Flow", "behind", "(LRegisterHouse$Listing;I)I"⟩, 2), (⟨"RegisterHouse$Flow", "beforeIfThere", "(LRegisterHouse$Listing;I)I"⟩, 2), (⟨"RegisterHouse$Flow", "blockedIn", "(LRegisterHouse$Program;II)I"⟩, 2), (⟨"RegisterHouse$Flow", "blockAll", "(II)V"⟩, 2), (⟨"RegisterHouse$Homes", "forget", "(I)V"⟩, 5), (⟨"RegisterHouse$Homes", "weigh", "(LRegisterHouse$Listing;I)V"⟩, 5), (⟨"RegisterHouse$Homes", "join", "(LRegisterHouse$Program;I)V"⟩, 5), (⟨"RegisterHouse$Homes", "line", "(I)V"⟩, 5), (⟨"RegisterHouse$Homes", "placeFor", "(III)I"⟩, 5), (⟨"RegisterHouse$Homes", "placesOf", "(II)I"⟩, 5), (⟨"RegisterHouse$Tidier", "firstNeedless", "(LRegisterHouse$Listing;)I"⟩, 1), (⟨"RegisterHouse$Tidier", "markLed", "(LRegisterHouse$Listing;)V"⟩, 1)]
theorem lw_r1 : ∀ q ∈ lw_privs_1, lw_okq q := List.forall_mem_cons.mpr ⟨lw_p0, List.forall_mem_cons.mpr ⟨lw_p1, List.forall_mem_cons.mpr ⟨lw_p2, List.forall_mem_cons.mpr ⟨lw_p3, List.forall_mem_cons.mpr ⟨lw_p4, List.forall_mem_cons.mpr ⟨lw_p5, List.forall_mem_cons.mpr ⟨lw_p6, List.forall_mem_cons.mpr ⟨lw_p7, List.forall_mem_cons.mpr ⟨lw_p8, List.forall_mem_cons.mpr ⟨lw_p9, List.forall_mem_cons.mpr ⟨lw_p10, List.forall_mem_cons.mpr ⟨lw_p11, List.forall_mem_cons.mpr ⟨lw_p12, List.forall_mem_cons.mpr ⟨lw_p13, List.forall_mem_cons.mpr ⟨lw_p14, List.forall_mem_cons.mpr ⟨lw_p15, fun _ h => absurd h List.not_mem_nil⟩⟩⟩⟩⟩⟩⟩⟩⟩⟩⟩⟩⟩⟩⟩⟩
theorem lw_p16 : lw_okq (⟨"RegisterHouse", "listingOf", "(I)LRegisterHouse$Listing;"⟩, 12) := ⟨⟨by decide +kernel, by decide +kernel⟩, List.mem_of_getElem? (i := 13) (by decide +kernel), List.mem_of_getElem? (i := 514) (by decide +kernel), List.mem_of_getElem? (i := 515) (by decide +kernel)⟩
theorem lw_p17 : lw_okq (⟨"RegisterHouse$Machine", "begin", "([I)V"⟩, 6) := ⟨⟨by decide +kernel, by decide +kernel⟩, List.mem_of_getElem? (i := 179) (by decide +kernel), List.mem_of_getElem? (i := 527) (by decide +kernel), List.mem_of_getElem? (i := 528) (by decide +kernel)⟩
theorem lw_p18 : lw_okq (⟨"RegisterHouse$Machine", "lineBehind", "(LRegisterHouse$Listing;I)I"⟩, 6) := ⟨⟨by decide +kernel, by decide +kernel⟩, List.mem_of_getElem? (i := 179) (by decide +kernel), List.mem_of_getElem? (i := 531) (by decide +kernel), List.mem_of_getElem? (i := 532) (by decide +kernel)⟩
theorem lw_p19 : lw_okq (⟨"RegisterHouse$Machine", "act", "(IIII)V"⟩, 6) := ⟨⟨by decide +kernel, by decide +kernel⟩, List.mem_of_getElem? (i := 179) (by decide +kernel), List.mem_of_getElem? (i := 535) (by decide +kernel), List.mem_of_getElem? (i := 536) (by decide +kernel)⟩
theorem lw_p20 : lw_okq (⟨"RegisterHouse$Machine", "cellAt", "(II)I"⟩, 6) := ⟨⟨by decide +kernel, by decide +kernel⟩, List.mem_of_getElem? (i := 179) (by decide +kernel), List.mem_of_getElem? (i := 539) (by decide +kernel), List.mem_of_getElem? (i := 540) (by decide +kernel)⟩
theorem lw_p21 : lw_okq (⟨"RegisterHouse$Machine", "speak", "(I)V"⟩, 6) := ⟨⟨by decide +kernel, by decide +kernel⟩, List.mem_of_getElem? (i := 179) (by decide +kernel), List.mem_of_getElem? (i := 546) (by decide +kernel), List.mem_of_getElem? (i := 547) (by decide +kernel)⟩
theorem lw_p22 : lw_okq (⟨"RegisterHouseModel", "mayBe", "(IIII)Z"⟩, 28) := ⟨⟨by decide +kernel, by decide +kernel⟩, List.mem_of_getElem? (i := 585) (by decide +kernel), List.mem_of_getElem? (i := 684) (by decide +kernel), List.mem_of_getElem? (i := 685) (by decide +kernel)⟩
theorem lw_p23 : lw_okq (⟨"RegisterHouseModel", "isValue", "(I)Z"⟩, 28) := ⟨⟨by decide +kernel, by decide +kernel⟩, List.mem_of_getElem? (i := 585) (by decide +kernel), List.mem_of_getElem? (i := 688) (by decide +kernel), List.mem_of_getElem? (i := 689) (by decide +kernel)⟩
theorem lw_p24 : lw_okq (⟨"RegisterHouseModel", "isOf", "(II)Z"⟩, 28) := ⟨⟨by decide +kernel, by decide +kernel⟩, List.mem_of_getElem? (i := 585) (by decide +kernel), List.mem_of_getElem? (i := 692) (by decide +kernel), List.mem_of_getElem? (i := 693) (by decide +kernel)⟩
theorem lw_p25 : lw_okq (⟨"RegisterHouseModel", "flow", "()V"⟩, 28) := ⟨⟨by decide +kernel, by decide +kernel⟩, List.mem_of_getElem? (i := 585) (by decide +kernel), List.mem_of_getElem? (i := 712) (by decide +kernel), List.mem_of_getElem? (i := 713) (by decide +kernel)⟩
theorem lw_p26 : lw_okq (⟨"RegisterHouseModel", "liveAt", "(I)I"⟩, 28) := ⟨⟨by decide +kernel, by decide +kernel⟩, List.mem_of_getElem? (i := 585) (by decide +kernel), List.mem_of_getElem? (i := 716) (by decide +kernel), List.mem_of_getElem? (i := 717) (by decide +kernel)⟩
theorem lw_p27 : lw_okq (⟨"RegisterHouseModel", "anew", "(I)I"⟩, 28) := ⟨⟨by decide +kernel, by decide +kernel⟩, List.mem_of_getElem? (i := 585) (by decide +kernel), List.mem_of_getElem? (i := 720) (by decide +kernel), List.mem_of_getElem? (i := 721) (by decide +kernel)⟩
theorem lw_p28 : lw_okq (⟨"RegisterHouseModel", "taking", "(I)I"⟩, 28) := ⟨⟨by decide +kernel, by decide +kernel⟩, List.mem_of_getElem? (i := 585) (by decide +kernel), List.mem_of_getElem? (i := 724) (by decide +kernel), List.mem_of_getElem? (i := 725) (by decide +kernel)⟩
theorem lw_p29 : lw_okq (⟨"RegisterHouseModel", "taken", "(II)I"⟩, 28) := ⟨⟨by decide +kernel, by decide +kernel⟩, List.mem_of_getElem? (i := 585) (by decide +kernel), List.mem_of_getElem? (i := 728) (by decide +kernel), List.mem_of_getElem? (i := 729) (by decide +kernel)⟩
theorem lw_p30 : lw_okq (⟨"RegisterHouseModel", "meet", "()V"⟩, 28) := ⟨⟨by decide +kernel, by decide +kernel⟩, List.mem_of_getElem? (i := 585) (by decide +kernel), List.mem_of_getElem? (i := 736) (by decide +kernel), List.mem_of_getElem? (i := 737) (by decide +kernel)⟩
theorem lw_p31 : lw_okq (⟨"RegisterHouseModel", "settle", "()V"⟩, 28) := ⟨⟨by decide +kernel, by decide +kernel⟩, List.mem_of_getElem? (i := 585) (by decide +kernel), List.mem_of_getElem? (i := 748) (by decide +kernel), List.mem_of_getElem? (i := 749) (by decide +kernel)⟩
def lw_privs_2 : List (MethodName × Nat) := [(⟨"RegisterHouse", "listingOf", "(I)LRegisterHouse$Listing;"⟩, 12), (⟨"RegisterHouse$Machine", "begin", "([I)V"⟩, 6), (⟨"RegisterHouse$Machine", "lineBehind", "(LRegisterHouse$Listing;I)I"⟩, 6), (⟨"RegisterHouse$Machine", "act", "(IIII)V"⟩, 6), (⟨"RegisterHouse$Machine", "cellAt", "(II)I"⟩, 6), (⟨"RegisterHouse$Machine", "speak", "(I)V"⟩, 6), (⟨"RegisterHouseModel", "mayBe", "(IIII)Z"⟩, 28), (⟨"RegisterHouseModel", "isValue", "(I)Z"⟩, 28), (⟨"RegisterHouseModel", "isOf", "(II)Z"⟩, 28), (⟨"RegisterHouseModel", "flow", "()V"⟩, 28), (⟨"RegisterHouseModel", "liveAt", "(I)I"⟩, 28), (⟨"RegisterHouseModel", "anew", "(I)I"⟩, 28), (⟨"RegisterHouseModel", "taking", "(I)I"⟩, 28), (⟨"RegisterHouseModel", "taken", "(II)I"⟩, 28), (⟨"RegisterHouseModel", "meet", "()V"⟩, 28), (⟨"RegisterHouseModel", "settle", "()V"⟩, 28)]
theorem lw_r2 : ∀ q ∈ lw_privs_2, lw_okq q := List.forall_mem_cons.mpr ⟨lw_p16, List.forall_mem_cons.mpr ⟨lw_p17, List.forall_mem_cons.mpr ⟨lw_p18, List.forall_mem_cons.mpr ⟨lw_p19, List.forall_mem_cons.mpr ⟨lw_p20, List.forall_mem_cons.mpr ⟨lw_p21, List.forall_mem_cons.mpr ⟨lw_p22, List.forall_mem_cons.mpr ⟨lw_p23, List.forall_mem_cons.mpr ⟨lw_p24, List.forall_mem_cons.mpr ⟨lw_p25, List.forall_mem_cons.mpr ⟨lw_p26, List.forall_mem_cons.mpr ⟨lw_p27, List.forall_mem_cons.mpr ⟨lw_p28, List.forall_mem_cons.mpr ⟨lw_p29, List.forall_mem_cons.mpr ⟨lw_p30, List.forall_mem_cons.mpr ⟨lw_p31, fun _ h => absurd h List.not_mem_nil⟩⟩⟩⟩⟩⟩⟩⟩⟩⟩⟩⟩⟩⟩⟩⟩
theorem lw_p32 : lw_okq (⟨"RegisterHouseModel", "homeFor", "(I)I"⟩, 28) := ⟨⟨by decide +kernel, by decide +kernel⟩, List.mem_of_getElem? (i := 585) (by decide +kernel), List.mem_of_getElem? (i := 752) (by decide +kernel), List.mem_of_getElem? (i := 753) (by decide +kernel)⟩
theorem lw_p33 : lw_okq (⟨"RegisterHouseModel", "isJoined", "(II)Z"⟩, 28) := ⟨⟨by decide +kernel, by decide +kernel⟩, List.mem_of_getElem? (i := 585) (by decide +kernel), List.mem_of_getElem? (i := 756) (by decide +kernel), List.mem_of_getElem? (i := 757) (by decide +kernel)⟩
theorem lw_p34 : lw_okq (⟨"RegisterHouseModel", "isFree", "(II)Z"⟩, 28) := ⟨⟨by decide +kernel, by decide +kernel⟩, List.mem_of_getElem? (i := 585) (by decide +kernel), List.mem_of_getElem? (i := 760) (by decide +kernel), List.mem_of_getElem? (i := 761) (by decide +kernel)⟩
theorem lw_p35 : lw_okq (⟨"RegisterHouseModel", "makeCode", "()V"⟩, 28) := ⟨⟨by decide +kernel, by decide +kernel⟩, List.mem_of_getElem? (i := 585) (by decide +kernel), List.mem_of_getElem? (i := 772) (by decide +kernel), List.mem_of_getElem? (i := 773) (by decide +kernel)⟩
theorem lw_p36 : lw_okq (⟨"RegisterHouseModel", "makeStep", "(I)V"⟩, 28) := ⟨⟨by decide +kernel, by decide +kernel⟩, List.mem_of_getElem? (i := 585) (by decide +kernel), List.mem_of_getElem? (i := 776) (by decide +kernel), List.mem_of_getElem? (i := 777) (by decide +kernel)⟩
theorem lw_p37 : lw_okq (⟨"RegisterHouseModel", "fetch", "(I)V"⟩, 28) := ⟨⟨by decide +kernel, by decide +kernel⟩, List.mem_of_getElem? (i := 585) (by decide +kernel), List.mem_of_getElem? (i := 780) (by decide +kernel), List.mem_of_getElem? (i := 781) (by decide +kernel)⟩
theorem lw_p38 : lw_okq (⟨"RegisterHouseModel", "lay", "(IIII)V"⟩, 28) := ⟨⟨by decide +kernel, by decide +kernel⟩, List.mem_of_getElem? (i := 585) (by decide +kernel), List.mem_of_getElem? (i := 787) (by decide +kernel), List.mem_of_getElem? (i := 788) (by decide +kernel)⟩
theorem lw_p39 : lw_okq (⟨"RegisterHouseModel", "to", "(I)I"⟩, 28) := ⟨⟨by decide +kernel, by decide +kernel⟩, List.mem_of_getElem? (i := 585) (by decide +kernel), List.mem_of_getElem? (i := 791) (by decide +kernel), List.mem_of_getElem? (i := 792) (by decide +kernel)⟩
theorem lw_p40 : lw_okq (⟨"RegisterHouseModel", "from", "(I)I"⟩, 28) := ⟨⟨by decide +kernel, by decide +kernel⟩, List.mem_of_getElem? (i := 585) (by decide +kernel), List.mem_of_getElem? (i := 795) (by decide +kernel), List.mem_of_getElem? (i := 796) (by decide +kernel)⟩
theorem lw_p41 : lw_okq (⟨"RegisterHouseModel", "needless", "()I"⟩, 28) := ⟨⟨by decide +kernel, by decide +kernel⟩, List.mem_of_getElem? (i := 585) (by decide +kernel), List.mem_of_getElem? (i := 799) (by decide +kernel), List.mem_of_getElem? (i := 800) (by decide +kernel)⟩
theorem lw_p42 : lw_okq (⟨"RegisterHouseModel", "leads", "(I)I"⟩, 28) := ⟨⟨by decide +kernel, by decide +kernel⟩, List.mem_of_getElem? (i := 585) (by decide +kernel), List.mem_of_getElem? (i := 803) (by decide +kernel), List.mem_of_getElem? (i := 804) (by decide +kernel)⟩
theorem lw_p43 : lw_okq (⟨"RegisterHouseModel", "isLedTo", "(I)Z"⟩, 28) := ⟨⟨by decide +kernel, by decide +kernel⟩, List.mem_of_getElem? (i := 585) (by decide +kernel), List.mem_of_getElem? (i := 807) (by decide +kernel), List.mem_of_getElem? (i := 808) (by decide +kernel)⟩
theorem lw_p44 : lw_okq (⟨"RegisterHouseModel", "take", "(I)V"⟩, 28) := ⟨⟨by decide +kernel, by decide +kernel⟩, List.mem_of_getElem? (i := 585) (by decide +kernel), List.mem_of_getElem? (i := 811) (by decide +kernel), List.mem_of_getElem? (i := 812) (by decide +kernel)⟩
theorem lw_p45 : lw_okq (⟨"RegisterHouseModel", "slotsOf", "(I)I"⟩, 28) := ⟨⟨by decide +kernel, by decide +kernel⟩, List.mem_of_getElem? (i := 585) (by decide +kernel), List.mem_of_getElem? (i := 815) (by decide +kernel), List.mem_of_getElem? (i := 816) (by decide +kernel)⟩
theorem lw_p46 : lw_okq (⟨"RegisterHouseModel", "begin", "()V"⟩, 28) := ⟨⟨by decide +kernel, by decide +kernel⟩, List.mem_of_getElem? (i := 585) (by decide +kernel), List.mem_of_getElem? (i := 827) (by decide +kernel), List.mem_of_getElem? (i := 828) (by decide +kernel)⟩
theorem lw_p47 : lw_okq (⟨"RegisterHouseModel", "doStep", "(I)I"⟩, 28) := ⟨⟨by decide +kernel, by decide +kernel⟩, List.mem_of_getElem? (i := 585) (by decide +kernel), List.mem_of_getElem? (i := 831) (by decide +kernel), List.mem_of_getElem? (i := 832) (by decide +kernel)⟩
def lw_privs_3 : List (MethodName × Nat) := [(⟨"RegisterHouseModel", "homeFor", "(I)I"⟩, 28), (⟨"RegisterHouseModel", "isJoined", "(II)Z"⟩, 28), (⟨"RegisterHouseModel", "isFree", "(II)Z"⟩, 28), (⟨"RegisterHouseModel", "makeCode", "()V"⟩, 28), (⟨"RegisterHouseModel", "makeStep", "(I)V"⟩, 28), (⟨"RegisterHouseModel", "fetch", "(I)V"⟩, 28), (⟨"RegisterHouseModel", "lay", "(IIII)V"⟩, 28), (⟨"RegisterHouseModel", "to", "(I)I"⟩, 28), (⟨"RegisterHouseModel", "from", "(I)I"⟩, 28), (⟨"RegisterHouseModel", "needless", "()I"⟩, 28), (⟨"RegisterHouseModel", "leads", "(I)I"⟩, 28), (⟨"RegisterHouseModel", "isLedTo", "(I)Z"⟩, 28), (⟨"RegisterHouseModel", "take", "(I)V"⟩, 28), (⟨"RegisterHouseModel", "slotsOf", "(I)I"⟩, 28), (⟨"RegisterHouseModel", "begin", "()V"⟩, 28), (⟨"RegisterHouseModel", "doStep", "(I)I"⟩, 28)]
theorem lw_r3 : ∀ q ∈ lw_privs_3, lw_okq q := List.forall_mem_cons.mpr ⟨lw_p32, List.forall_mem_cons.mpr ⟨lw_p33, List.forall_mem_cons.mpr ⟨lw_p34, List.forall_mem_cons.mpr ⟨lw_p35, List.forall_mem_cons.mpr ⟨lw_p36, List.forall_mem_cons.mpr ⟨lw_p37, List.forall_mem_cons.mpr ⟨lw_p38, List.forall_mem_cons.mpr ⟨lw_p39, List.forall_mem_cons.mpr ⟨lw_p40, List.forall_mem_cons.mpr ⟨lw_p41, List.forall_mem_cons.mpr ⟨lw_p42, List.forall_mem_cons.mpr ⟨lw_p43, List.forall_mem_cons.mpr ⟨lw_p44, List.forall_mem_cons.mpr ⟨lw_p45, List.forall_mem_cons.mpr ⟨lw_p46, List.forall_mem_cons.mpr ⟨lw_p47, fun _ h => absurd h List.not_mem_nil⟩⟩⟩⟩⟩⟩⟩⟩⟩⟩⟩⟩⟩⟩⟩⟩
theorem lw_p48 : lw_okq (⟨"RegisterHouseModel", "say", "(I)V"⟩, 28) := ⟨⟨by decide +kernel, by decide +kernel⟩, List.mem_of_getElem? (i := 585) (by decide +kernel), List.mem_of_getElem? (i := 838) (by decide +kernel), List.mem_of_getElem? (i := 839) (by decide +kernel)⟩
theorem lw_p49 : lw_okq (⟨"RegisterHouseModel", "doItem", "(II)I"⟩, 28) := ⟨⟨by decide +kernel, by decide +kernel⟩, List.mem_of_getElem? (i := 585) (by decide +kernel), List.mem_of_getElem? (i := 842) (by decide +kernel), List.mem_of_getElem? (i := 843) (by decide +kernel)⟩
def lw_privs_4 : List (MethodName × Nat) := [(⟨"RegisterHouseModel", "say", "(I)V"⟩, 28), (⟨"RegisterHouseModel", "doItem", "(II)I"⟩, 28)]
theorem lw_r4 : ∀ q ∈ lw_privs_4, lw_okq q := List.forall_mem_cons.mpr ⟨lw_p48, List.forall_mem_cons.mpr ⟨lw_p49, fun _ h => absurd h List.not_mem_nil⟩⟩
def lw_privs : List (MethodName × Nat) := lw_privs_1 ++ (lw_privs_2 ++ (lw_privs_3 ++ (lw_privs_4)))
def lw_tbl : List Cond := k2_sels lw_privs ++ tables_1
theorem lw_privs_ok : ∀ q ∈ lw_privs, lw_okq q := by
  show ∀ q ∈ lw_privs_1 ++ (lw_privs_2 ++ (lw_privs_3 ++ (lw_privs_4))), lw_okq q
  exact List.forall_mem_append.mpr ⟨lw_r1, List.forall_mem_append.mpr ⟨lw_r2, List.forall_mem_append.mpr ⟨lw_r3, lw_r4⟩⟩⟩
end
section
def RX0 : String := "RegisterHouse$Coder"
def TX0 : u_T := fun k => match k with
  | _ => ("RegisterHouse$Coder", "starts", "[I", true)
def tyX0 : Nat → FieldType := fun k => match k with
  | _ => .array .int
abbrev wsX00 : List Cond := u_ws RX0 TX0 1
theorem nmX0 : ∀ a, a < 1 → ∀ b, b < 1 → a ≠ b → (TX0 a).2.1 ≠ (TX0 b).2.1 := by decide +kernel
theorem tyX0_ok : ∀ k, k < 1 → parseFieldDescriptor (TX0 k).2.2.1 = some (tyX0 k) := by decide +kernel
abbrev cX0_init : ByteArray := prog_2_method_1_code
def yX0_init : MethodName := ⟨RX0, "<init>", "()V"⟩
abbrev cX0_translate : ByteArray := prog_2_method_2_code
def yX0_translate : MethodName := ⟨RX0, "translate", "(LRegisterHouse$Program;LRegisterHouse$Homes;LRegisterHouse$Listing;)V"⟩
abbrev cX0_isNeedless : ByteArray := prog_2_method_3_code
def yX0_isNeedless : MethodName := ⟨RX0, "isNeedless", "(LRegisterHouse$Program;LRegisterHouse$Homes;I)Z"⟩
abbrev cX0_translateStep : ByteArray := prog_2_method_4_code
def yX0_translateStep : MethodName := ⟨RX0, "translateStep", "(LRegisterHouse$Program;LRegisterHouse$Homes;LRegisterHouse$Listing;I)V"⟩
abbrev cX0_bring : ByteArray := prog_2_method_5_code
def yX0_bring : MethodName := ⟨RX0, "bring", "(LRegisterHouse$Program;LRegisterHouse$Homes;LRegisterHouse$Listing;II)I"⟩
abbrev cX0_firstHolds8 : ByteArray := prog_2_method_6_code
def yX0_firstHolds8 : MethodName := ⟨RX0, "firstHolds8", "(LRegisterHouse$Program;LRegisterHouse$Homes;II)Z"⟩
abbrev cX0_registerOf : ByteArray := prog_2_method_7_code
def yX0_registerOf : MethodName := ⟨RX0, "registerOf", "(LRegisterHouse$Program;LRegisterHouse$Homes;II)I"⟩
abbrev cX0_addMaker : ByteArray := prog_2_method_8_code
def yX0_addMaker : MethodName := ⟨RX0, "addMaker", "(LRegisterHouse$Listing;LRegisterHouse$Listing;IIII)V"⟩
abbrev cX0_addUser : ByteArray := prog_2_method_9_code
def yX0_addUser : MethodName := ⟨RX0, "addUser", "(LRegisterHouse$Listing;LRegisterHouse$Listing;III)V"⟩
def RX1 : String := "RegisterHouse$Flow"
def TX1 : u_T := fun k => match k with
  | 0 => ("RegisterHouse$Flow", "before", "[I", true)
  | _ => ("RegisterHouse$Flow", "ways", "[I", true)
def tyX1 : Nat → FieldType := fun k => match k with
  | 0 => .array .int
  | _ => .array .int
abbrev wsX10 : List Cond := u_ws RX1 TX1 2
theorem nmX1 : ∀ a, a < 2 → ∀ b, b < 2 → a ≠ b → (TX1 a).2.1 ≠ (TX1 b).2.1 := by decide +kernel
theorem tyX1_ok : ∀ k, k < 2 → parseFieldDescriptor (TX1 k).2.2.1 = some (tyX1 k) := by decide +kernel
abbrev cX1_init : ByteArray := prog_3_method_1_code
def yX1_init : MethodName := ⟨RX1, "<init>", "()V"⟩
abbrev cX1_spread : ByteArray := prog_3_method_2_code
def yX1_spread : MethodName := ⟨RX1, "spread", "(LRegisterHouse$Program;)V"⟩
abbrev cX1_liveBefore : ByteArray := prog_3_method_3_code
def yX1_liveBefore : MethodName := ⟨RX1, "liveBefore", "(LRegisterHouse$Program;I)I"⟩
abbrev cX1_behind : ByteArray := prog_3_method_4_code
def yX1_behind : MethodName := ⟨RX1, "behind", "(LRegisterHouse$Listing;I)I"⟩
abbrev cX1_beforeIfThere : ByteArray := prog_3_method_5_code
def yX1_beforeIfThere : MethodName := ⟨RX1, "beforeIfThere", "(LRegisterHouse$Listing;I)I"⟩
abbrev cX1_collide : ByteArray := prog_3_method_6_code
def yX1_collide : MethodName := ⟨RX1, "collide", "(LRegisterHouse$Program;)V"⟩
abbrev cX1_blockedIn : ByteArray := prog_3_method_7_code
def yX1_blockedIn : MethodName := ⟨RX1, "blockedIn", "(LRegisterHouse$Program;II)I"⟩
abbrev cX1_blockAll : ByteArray := prog_3_method_8_code
def yX1_blockAll : MethodName := ⟨RX1, "blockAll", "(II)V"⟩
def RX2 : String := "RegisterHouse$Homes"
def TX2 : u_T := fun k => match k with
  | 0 => ("RegisterHouse$Homes", "registers", "[I", true)
  | 1 => ("RegisterHouse$Homes", "weights", "[I", true)
  | 2 => ("RegisterHouse$Homes", "turns", "[I", true)
  | 3 => ("RegisterHouse$Homes", "joined", "[I", true)
  | _ => ("RegisterHouse$Homes", "places", "[I", true)
def tyX2 : Nat → FieldType := fun k => match k with
  | 0 => .array .int
  | 1 => .array .int
  | 2 => .array .int
  | 3 => .array .int
  | _ => .array .int
abbrev wsX20 : List Cond := u_ws RX2 TX2 5
theorem nmX2 : ∀ a, a < 5 → ∀ b, b < 5 → a ≠ b → (TX2 a).2.1 ≠ (TX2 b).2.1 := by decide +kernel
theorem tyX2_ok : ∀ k, k < 5 → parseFieldDescriptor (TX2 k).2.2.1 = some (tyX2 k) := by decide +kernel
abbrev cX2_init : ByteArray := prog_4_method_1_code
def yX2_init : MethodName := ⟨RX2, "<init>", "()V"⟩
abbrev cX2_settle : ByteArray := prog_4_method_2_code
def yX2_settle : MethodName := ⟨RX2, "settle", "(LRegisterHouse$Program;[I)V"⟩
abbrev cX2_forget : ByteArray := prog_4_method_3_code
def yX2_forget : MethodName := ⟨RX2, "forget", "(I)V"⟩
abbrev cX2_weigh : ByteArray := prog_4_method_4_code
def yX2_weigh : MethodName := ⟨RX2, "weigh", "(LRegisterHouse$Listing;I)V"⟩
abbrev cX2_join : ByteArray := prog_4_method_5_code
def yX2_join : MethodName := ⟨RX2, "join", "(LRegisterHouse$Program;I)V"⟩
abbrev cX2_line : ByteArray := prog_4_method_6_code
def yX2_line : MethodName := ⟨RX2, "line", "(I)V"⟩
abbrev cX2_placeFor : ByteArray := prog_4_method_7_code
def yX2_placeFor : MethodName := ⟨RX2, "placeFor", "(III)I"⟩
abbrev cX2_placesOf : ByteArray := prog_4_method_8_code
def yX2_placesOf : MethodName := ⟨RX2, "placesOf", "(II)I"⟩
abbrev cX2_inSlot : ByteArray := prog_4_method_9_code
def yX2_inSlot : MethodName := ⟨RX2, "inSlot", "(I)Z"⟩
abbrev cX2_slotsOf : ByteArray := prog_4_method_10_code
def yX2_slotsOf : MethodName := ⟨RX2, "slotsOf", "(ILRegisterHouse$Program;)I"⟩
abbrev cX2_clash : ByteArray := prog_4_method_11_code
def yX2_clash : MethodName := ⟨RX2, "clash", "(I[I)Z"⟩
def RX3 : String := "RegisterHouse$Listing"
def TX3 : u_T := fun k => match k with
  | 0 => ("RegisterHouse$Listing", "ops", "[I", true)
  | 1 => ("RegisterHouse$Listing", "xs", "[I", true)
  | 2 => ("RegisterHouse$Listing", "ys", "[I", true)
  | 3 => ("RegisterHouse$Listing", "zs", "[I", true)
  | _ => ("RegisterHouse$Listing", "size", "I", false)
def tyX3 : Nat → FieldType := fun k => match k with
  | 0 => .array .int
  | 1 => .array .int
  | 2 => .array .int
  | 3 => .array .int
  | _ => .int
abbrev wsX30 : List Cond := u_ws RX3 TX3 5
theorem nmX3 : ∀ a, a < 5 → ∀ b, b < 5 → a ≠ b → (TX3 a).2.1 ≠ (TX3 b).2.1 := by decide +kernel
theorem tyX3_ok : ∀ k, k < 5 → parseFieldDescriptor (TX3 k).2.2.1 = some (tyX3 k) := by decide +kernel
abbrev cX3_init : ByteArray := prog_5_method_1_code
def yX3_init : MethodName := ⟨RX3, "<init>", "(I)V"⟩
abbrev cX3_add : ByteArray := prog_5_method_2_code
def yX3_add : MethodName := ⟨RX3, "add", "(IIII)V"⟩
abbrev cX3_part : ByteArray := prog_5_method_3_code
def yX3_part : MethodName := ⟨RX3, "part", "(II)I"⟩
abbrev cX3_target : ByteArray := prog_5_method_4_code
def yX3_target : MethodName := ⟨RX3, "target", "(I)I"⟩
abbrev cX3_aim : ByteArray := prog_5_method_5_code
def yX3_aim : MethodName := ⟨RX3, "aim", "(II)V"⟩
abbrev cX3_goesOn : ByteArray := prog_5_method_6_code
def yX3_goesOn : MethodName := ⟨RX3, "goesOn", "(I)Z"⟩
abbrev cX3_copy : ByteArray := prog_5_method_7_code
def yX3_copy : MethodName := ⟨RX3, "copy", "(LRegisterHouse$Listing;)V"⟩
abbrev cX3_takeAway : ByteArray := prog_5_method_8_code
def yX3_takeAway : MethodName := ⟨RX3, "takeAway", "(I)V"⟩
def RX4 : String := "RegisterHouse$Machine"
def TX4 : u_T := fun k => match k with
  | 0 => ("RegisterHouse$Machine", "registers", "[I", true)
  | 1 => ("RegisterHouse$Machine", "slots", "[I", true)
  | 2 => ("RegisterHouse$Machine", "cells", "[I", true)
  | 3 => ("RegisterHouse$Machine", "speech", "[I", true)
  | 4 => ("RegisterHouse$Machine", "words", "I", false)
  | _ => ("RegisterHouse$Machine", "lines", "I", false)
def tyX4 : Nat → FieldType := fun k => match k with
  | 0 => .array .int
  | 1 => .array .int
  | 2 => .array .int
  | 3 => .array .int
  | 4 => .int
  | _ => .int
abbrev wsX40 : List Cond := u_ws RX4 TX4 6
theorem nmX4 : ∀ a, a < 6 → ∀ b, b < 6 → a ≠ b → (TX4 a).2.1 ≠ (TX4 b).2.1 := by decide +kernel
theorem tyX4_ok : ∀ k, k < 6 → parseFieldDescriptor (TX4 k).2.2.1 = some (tyX4 k) := by decide +kernel
abbrev cX4_init : ByteArray := prog_6_method_1_code
def yX4_init : MethodName := ⟨RX4, "<init>", "()V"⟩
abbrev cX4_endsWithin : ByteArray := prog_6_method_2_code
def yX4_endsWithin : MethodName := ⟨RX4, "endsWithin", "(ILRegisterHouse$Listing;[I)Z"⟩
abbrev cX4_begin : ByteArray := prog_6_method_3_code
def yX4_begin : MethodName := ⟨RX4, "begin", "([I)V"⟩
abbrev cX4_lineBehind : ByteArray := prog_6_method_4_code
def yX4_lineBehind : MethodName := ⟨RX4, "lineBehind", "(LRegisterHouse$Listing;I)I"⟩
abbrev cX4_act : ByteArray := prog_6_method_5_code
def yX4_act : MethodName := ⟨RX4, "act", "(IIII)V"⟩
abbrev cX4_cellAt : ByteArray := prog_6_method_6_code
def yX4_cellAt : MethodName := ⟨RX4, "cellAt", "(II)I"⟩
abbrev cX4_slotAt : ByteArray := prog_6_method_7_code
def yX4_slotAt : MethodName := ⟨RX4, "slotAt", "(II)I"⟩
abbrev cX4_speak : ByteArray := prog_6_method_8_code
def yX4_speak : MethodName := ⟨RX4, "speak", "(I)V"⟩
abbrev cX4_wordsKept : ByteArray := prog_6_method_9_code
def yX4_wordsKept : MethodName := ⟨RX4, "wordsKept", "()I"⟩
abbrev cX4_agreesWith : ByteArray := prog_6_method_10_code
def yX4_agreesWith : MethodName := ⟨RX4, "agreesWith", "(LRegisterHouse$Machine;)Z"⟩
def RX5 : String := "RegisterHouse$Program"
def TX5 : u_T := fun k => match k with
  | 0 => ("RegisterHouse$Program", "classes", "[I", true)
  | 1 => ("RegisterHouse$Program", "membersOf", "[I", true)
  | 2 => ("RegisterHouse$Program", "steps", "LRegisterHouse$Listing;", true)
  | 3 => ("RegisterHouse$Program", "anew", "[I", true)
  | 4 => ("RegisterHouse$Program", "first", "[I", true)
  | 5 => ("RegisterHouse$Program", "second", "[I", true)
  | _ => ("RegisterHouse$Program", "values", "I", false)
def tyX5 : Nat → FieldType := fun k => match k with
  | 0 => .array .int
  | 1 => .array .int
  | 2 => .object "RegisterHouse$Listing"
  | 3 => .array .int
  | 4 => .array .int
  | 5 => .array .int
  | _ => .int
abbrev wsX50 : List Cond := u_ws RX5 TX5 7
theorem nmX5 : ∀ a, a < 7 → ∀ b, b < 7 → a ≠ b → (TX5 a).2.1 ≠ (TX5 b).2.1 := by decide +kernel
theorem tyX5_ok : ∀ k, k < 7 → parseFieldDescriptor (TX5 k).2.2.1 = some (tyX5 k) := by decide +kernel
abbrev cX5_init : ByteArray := prog_7_method_1_code
def yX5_init : MethodName := ⟨RX5, "<init>", "()V"⟩
abbrev cX5_addValue : ByteArray := prog_7_method_2_code
def yX5_addValue : MethodName := ⟨RX5, "addValue", "(I)I"⟩
abbrev cX5_isValue : ByteArray := prog_7_method_3_code
def yX5_isValue : MethodName := ⟨RX5, "isValue", "(I)Z"⟩
abbrev cX5_allows : ByteArray := prog_7_method_4_code
def yX5_allows : MethodName := ⟨RX5, "allows", "(IIII)Z"⟩
abbrev cX5_namesValues : ByteArray := prog_7_method_5_code
def yX5_namesValues : MethodName := ⟨RX5, "namesValues", "(IIII)Z"⟩
abbrev cX5_mayComeNext : ByteArray := prog_7_method_6_code
def yX5_mayComeNext : MethodName := ⟨RX5, "mayComeNext", "(I)Z"⟩
abbrev cX5_addStep : ByteArray := prog_7_method_7_code
def yX5_addStep : MethodName := ⟨RX5, "addStep", "(IIII)I"⟩
abbrev cX5_takenOf : ByteArray := prog_7_method_8_code
def yX5_takenOf : MethodName := ⟨RX5, "takenOf", "(II)I"⟩
def RX6 : String := "RegisterHouse$Tidier"
def TX6 : u_T := fun k => match k with
  | _ => ("RegisterHouse$Tidier", "led", "[Z", true)
def tyX6 : Nat → FieldType := fun k => match k with
  | _ => .array .boolean
abbrev wsX60 : List Cond := u_ws RX6 TX6 1
theorem nmX6 : ∀ a, a < 1 → ∀ b, b < 1 → a ≠ b → (TX6 a).2.1 ≠ (TX6 b).2.1 := by decide +kernel
theorem tyX6_ok : ∀ k, k < 1 → parseFieldDescriptor (TX6 k).2.2.1 = some (tyX6 k) := by decide +kernel
abbrev cX6_init : ByteArray := prog_8_method_1_code
def yX6_init : MethodName := ⟨RX6, "<init>", "()V"⟩
abbrev cX6_tidy : ByteArray := prog_8_method_2_code
def yX6_tidy : MethodName := ⟨RX6, "tidy", "(LRegisterHouse$Listing;)V"⟩
abbrev cX6_firstNeedless : ByteArray := prog_8_method_3_code
def yX6_firstNeedless : MethodName := ⟨RX6, "firstNeedless", "(LRegisterHouse$Listing;)I"⟩
abbrev cX6_markLed : ByteArray := prog_8_method_4_code
def yX6_markLed : MethodName := ⟨RX6, "markLed", "(LRegisterHouse$Listing;)V"⟩
abbrev cX6_leadsToNext : ByteArray := prog_8_method_5_code
def yX6_leadsToNext : MethodName := ⟨RX6, "leadsToNext", "(LRegisterHouse$Listing;I)Z"⟩
abbrev cX6_isIdleBehind : ByteArray := prog_8_method_6_code
def yX6_isIdleBehind : MethodName := ⟨RX6, "isIdleBehind", "(LRegisterHouse$Listing;I)Z"⟩
abbrev cX6_fetchesWhatWasKept : ByteArray := prog_8_method_7_code
def yX6_fetchesWhatWasKept : MethodName := ⟨RX6, "fetchesWhatWasKept", "(LRegisterHouse$Listing;I)Z"⟩
def RX7 : String := "RegisterHouse"
def TX7 : u_T := fun k => match k with
  | 0 => ("RegisterHouse", "program", "LRegisterHouse$Program;", true)
  | 1 => ("RegisterHouse", "flow", "LRegisterHouse$Flow;", true)
  | 2 => ("RegisterHouse", "homes", "LRegisterHouse$Homes;", true)
  | 3 => ("RegisterHouse", "coder", "LRegisterHouse$Coder;", true)
  | 4 => ("RegisterHouse", "tidier", "LRegisterHouse$Tidier;", true)
  | 5 => ("RegisterHouse", "code", "LRegisterHouse$Listing;", true)
  | 6 => ("RegisterHouse", "tidied", "LRegisterHouse$Listing;", true)
  | 7 => ("RegisterHouse", "toldMemory", "[I", true)
  | 8 => ("RegisterHouse", "latest", "LRegisterHouse$Machine;", true)
  | 9 => ("RegisterHouse", "stepsTrial", "LRegisterHouse$Machine;", true)
  | 10 => ("RegisterHouse", "codeTrial", "LRegisterHouse$Machine;", true)
  | _ => ("RegisterHouse", "ready", "I", false)
def tyX7 : Nat → FieldType := fun k => match k with
  | 0 => .object "RegisterHouse$Program"
  | 1 => .object "RegisterHouse$Flow"
  | 2 => .object "RegisterHouse$Homes"
  | 3 => .object "RegisterHouse$Coder"
  | 4 => .object "RegisterHouse$Tidier"
  | 5 => .object "RegisterHouse$Listing"
  | 6 => .object "RegisterHouse$Listing"
  | 7 => .array .int
  | 8 => .object "RegisterHouse$Machine"
  | 9 => .object "RegisterHouse$Machine"
  | 10 => .object "RegisterHouse$Machine"
  | _ => .int
abbrev wsX70 : List Cond := u_ws RX7 TX7 12
theorem nmX7 : ∀ a, a < 12 → ∀ b, b < 12 → a ≠ b → (TX7 a).2.1 ≠ (TX7 b).2.1 := by decide +kernel
theorem tyX7_ok : ∀ k, k < 12 → parseFieldDescriptor (TX7 k).2.2.1 = some (tyX7 k) := by decide +kernel
abbrev cX7_init : ByteArray := prog_1_method_1_code
def yX7_init : MethodName := ⟨RX7, "<init>", "()V"⟩
abbrev cX7_value : ByteArray := prog_1_method_2_code
def yX7_value : MethodName := ⟨RX7, "value", "(I)I"⟩
abbrev cX7_put : ByteArray := prog_1_method_3_code
def yX7_put : MethodName := ⟨RX7, "put", "(IIII)I"⟩
abbrev cX7_clear : ByteArray := prog_1_method_4_code
def yX7_clear : MethodName := ⟨RX7, "clear", "()I"⟩
abbrev cX7_registers : ByteArray := prog_1_method_5_code
def yX7_registers : MethodName := ⟨RX7, "registers", "(II)I"⟩
abbrev cX7_memory : ByteArray := prog_1_method_6_code
def yX7_memory : MethodName := ⟨RX7, "memory", "(II)I"⟩
abbrev cX7_live : ByteArray := prog_1_method_7_code
def yX7_live : MethodName := ⟨RX7, "live", "(I)I"⟩
abbrev cX7_inWay : ByteArray := prog_1_method_8_code
def yX7_inWay : MethodName := ⟨RX7, "inWay", "(I)I"⟩
abbrev cX7_weight : ByteArray := prog_1_method_9_code
def yX7_weight : MethodName := ⟨RX7, "weight", "(I)I"⟩
abbrev cX7_home : ByteArray := prog_1_method_10_code
def yX7_home : MethodName := ⟨RX7, "home", "(I)I"⟩
abbrev cX7_order : ByteArray := prog_1_method_11_code
def yX7_order : MethodName := ⟨RX7, "order", "(I)I"⟩
abbrev cX7_count : ByteArray := prog_1_method_12_code
def yX7_count : MethodName := ⟨RX7, "count", "(I)I"⟩
abbrev cX7_item : ByteArray := prog_1_method_13_code
def yX7_item : MethodName := ⟨RX7, "item", "(III)I"⟩
abbrev cX7_run : ByteArray := prog_1_method_14_code
def yX7_run : MethodName := ⟨RX7, "run", "(II)I"⟩
abbrev cX7_made : ByteArray := prog_1_method_15_code
def yX7_made : MethodName := ⟨RX7, "made", "(I)I"⟩
abbrev cX7_said : ByteArray := prog_1_method_16_code
def yX7_said : MethodName := ⟨RX7, "said", "(I)I"⟩
abbrev cX7_cell : ByteArray := prog_1_method_17_code
def yX7_cell : MethodName := ⟨RX7, "cell", "(I)I"⟩
abbrev cX7_check : ByteArray := prog_1_method_18_code
def yX7_check : MethodName := ⟨RX7, "check", "()I"⟩
abbrev cX7_isClass : ByteArray := prog_1_method_19_code
def yX7_isClass : MethodName := ⟨RX7, "isClass", "(I)Z"⟩
abbrev cX7_isCell : ByteArray := prog_1_method_20_code
def yX7_isCell : MethodName := ⟨RX7, "isCell", "(I)Z"⟩
abbrev cX7_stageOf : ByteArray := prog_1_method_21_code
def yX7_stageOf : MethodName := ⟨RX7, "stageOf", "(I)I"⟩
abbrev cX7_listingOf : ByteArray := prog_1_method_22_code
def yX7_listingOf : MethodName := ⟨RX7, "listingOf", "(I)LRegisterHouse$Listing;"⟩
abbrev cX7_workOut : ByteArray := prog_1_method_23_code
def yX7_workOut : MethodName := ⟨RX7, "workOut", "(I)V"⟩
abbrev cX7_bit : ByteArray := prog_1_method_24_code
def yX7_bit : MethodName := ⟨RX7, "bit", "(I)I"⟩
abbrev cX7_bitIfThere : ByteArray := prog_1_method_25_code
def yX7_bitIfThere : MethodName := ⟨RX7, "bitIfThere", "(I)I"⟩
abbrev cX7_has : ByteArray := prog_1_method_26_code
def yX7_has : MethodName := ⟨RX7, "has", "(II)Z"⟩
abbrev cX7_leastOf : ByteArray := prog_1_method_27_code
def yX7_leastOf : MethodName := ⟨RX7, "leastOf", "(I)I"⟩
def RX8 : String := "RegisterHouseModel"
def TX8 : u_T := fun k => match k with
  | 0 => ("RegisterHouseModel", "values", "I", false)
  | 1 => ("RegisterHouseModel", "classes", "[I", true)
  | 2 => ("RegisterHouseModel", "steps", "I", false)
  | 3 => ("RegisterHouseModel", "ops", "[I", true)
  | 4 => ("RegisterHouseModel", "first", "[I", true)
  | 5 => ("RegisterHouseModel", "second", "[I", true)
  | 6 => ("RegisterHouseModel", "third", "[I", true)
  | 7 => ("RegisterHouseModel", "registers", "[I", true)
  | 8 => ("RegisterHouseModel", "memory", "[I", true)
  | 9 => ("RegisterHouseModel", "before", "[I", true)
  | 10 => ("RegisterHouseModel", "behind", "[I", true)
  | 11 => ("RegisterHouseModel", "way", "[I", true)
  | 12 => ("RegisterHouseModel", "weights", "[I", true)
  | 13 => ("RegisterHouseModel", "order", "[I", true)
  | 14 => ("RegisterHouseModel", "homes", "[I", true)
  | 15 => ("RegisterHouseModel", "code", "[I", true)
  | 16 => ("RegisterHouseModel", "items", "[I", true)
  | 17 => ("RegisterHouseModel", "firstItem", "[I", true)
  | 18 => ("RegisterHouseModel", "made", "I", false)
  | 19 => ("RegisterHouseModel", "told", "I", false)
  | 20 => ("RegisterHouseModel", "said", "[I", true)
  | 21 => ("RegisterHouseModel", "left", "[I", true)
  | 22 => ("RegisterHouseModel", "held", "[I", true)
  | 23 => ("RegisterHouseModel", "slots", "[I", true)
  | 24 => ("RegisterHouseModel", "now", "[I", true)
  | 25 => ("RegisterHouseModel", "fetched", "I", false)
  | 26 => ("RegisterHouseModel", "fetches", "[I", true)
  | _ => ("RegisterHouseModel", "into", "[I", true)
def tyX8 : Nat → FieldType := fun k => match k with
  | 0 => .int
  | 1 => .array .int
  | 2 => .int
  | 3 => .array .int
  | 4 => .array .int
  | 5 => .array .int
  | 6 => .array .int
  | 7 => .array .int
  | 8 => .array .int
  | 9 => .array .int
  | 10 => .array .int
  | 11 => .array .int
  | 12 => .array .int
  | 13 => .array .int
  | 14 => .array .int
  | 15 => .array .int
  | 16 => .array .int
  | 17 => .array .int
  | 18 => .int
  | 19 => .int
  | 20 => .array .int
  | 21 => .array .int
  | 22 => .array .int
  | 23 => .array .int
  | 24 => .array .int
  | 25 => .int
  | 26 => .array .int
  | _ => .array .int
abbrev wsX80 : List Cond := u_ws RX8 TX8 28
theorem nmX8 : ∀ a, a < 28 → ∀ b, b < 28 → a ≠ b → (TX8 a).2.1 ≠ (TX8 b).2.1 := by decide +kernel
theorem tyX8_ok : ∀ k, k < 28 → parseFieldDescriptor (TX8 k).2.2.1 = some (tyX8 k) := by decide +kernel
abbrev cX8_init : ByteArray := prog_10_method_1_code
def yX8_init : MethodName := ⟨RX8, "<init>", "()V"⟩
abbrev cX8_value : ByteArray := prog_10_method_2_code
def yX8_value : MethodName := ⟨RX8, "value", "(I)I"⟩
abbrev cX8_isValue : ByteArray := prog_10_method_3_code
def yX8_isValue : MethodName := ⟨RX8, "isValue", "(I)Z"⟩
abbrev cX8_isOf : ByteArray := prog_10_method_4_code
def yX8_isOf : MethodName := ⟨RX8, "isOf", "(II)Z"⟩
abbrev cX8_mayBe : ByteArray := prog_10_method_5_code
def yX8_mayBe : MethodName := ⟨RX8, "mayBe", "(IIII)Z"⟩
abbrev cX8_put : ByteArray := prog_10_method_6_code
def yX8_put : MethodName := ⟨RX8, "put", "(IIII)I"⟩
abbrev cX8_clear : ByteArray := prog_10_method_7_code
def yX8_clear : MethodName := ⟨RX8, "clear", "()I"⟩
abbrev cX8_registers : ByteArray := prog_10_method_8_code
def yX8_registers : MethodName := ⟨RX8, "registers", "(II)I"⟩
abbrev cX8_memory : ByteArray := prog_10_method_9_code
def yX8_memory : MethodName := ⟨RX8, "memory", "(II)I"⟩
abbrev cX8_taken : ByteArray := prog_10_method_10_code
def yX8_taken : MethodName := ⟨RX8, "taken", "(II)I"⟩
abbrev cX8_anew : ByteArray := prog_10_method_11_code
def yX8_anew : MethodName := ⟨RX8, "anew", "(I)I"⟩
abbrev cX8_taking : ByteArray := prog_10_method_12_code
def yX8_taking : MethodName := ⟨RX8, "taking", "(I)I"⟩
abbrev cX8_liveAt : ByteArray := prog_10_method_13_code
def yX8_liveAt : MethodName := ⟨RX8, "liveAt", "(I)I"⟩
abbrev cX8_flow : ByteArray := prog_10_method_14_code
def yX8_flow : MethodName := ⟨RX8, "flow", "()V"⟩
abbrev cX8_meet : ByteArray := prog_10_method_15_code
def yX8_meet : MethodName := ⟨RX8, "meet", "()V"⟩
abbrev cX8_isJoined : ByteArray := prog_10_method_16_code
def yX8_isJoined : MethodName := ⟨RX8, "isJoined", "(II)Z"⟩
abbrev cX8_isFree : ByteArray := prog_10_method_17_code
def yX8_isFree : MethodName := ⟨RX8, "isFree", "(II)Z"⟩
abbrev cX8_homeFor : ByteArray := prog_10_method_18_code
def yX8_homeFor : MethodName := ⟨RX8, "homeFor", "(I)I"⟩
abbrev cX8_settle : ByteArray := prog_10_method_19_code
def yX8_settle : MethodName := ⟨RX8, "settle", "()V"⟩
abbrev cX8_lay : ByteArray := prog_10_method_20_code
def yX8_lay : MethodName := ⟨RX8, "lay", "(IIII)V"⟩
abbrev cX8_register : ByteArray := prog_10_method_21_code
def yX8_register : MethodName := ⟨RX8, "register", "(II)I"⟩
abbrev cX8_fetch : ByteArray := prog_10_method_22_code
def yX8_fetch : MethodName := ⟨RX8, "fetch", "(I)V"⟩
abbrev cX8_from : ByteArray := prog_10_method_23_code
def yX8_from : MethodName := ⟨RX8, "from", "(I)I"⟩
abbrev cX8_to : ByteArray := prog_10_method_24_code
def yX8_to : MethodName := ⟨RX8, "to", "(I)I"⟩
abbrev cX8_makeStep : ByteArray := prog_10_method_25_code
def yX8_makeStep : MethodName := ⟨RX8, "makeStep", "(I)V"⟩
abbrev cX8_makeCode : ByteArray := prog_10_method_26_code
def yX8_makeCode : MethodName := ⟨RX8, "makeCode", "()V"⟩
abbrev cX8_leads : ByteArray := prog_10_method_27_code
def yX8_leads : MethodName := ⟨RX8, "leads", "(I)I"⟩
abbrev cX8_isLedTo : ByteArray := prog_10_method_28_code
def yX8_isLedTo : MethodName := ⟨RX8, "isLedTo", "(I)Z"⟩
abbrev cX8_needless : ByteArray := prog_10_method_29_code
def yX8_needless : MethodName := ⟨RX8, "needless", "()I"⟩
abbrev cX8_take : ByteArray := prog_10_method_30_code
def yX8_take : MethodName := ⟨RX8, "take", "(I)V"⟩
abbrev cX8_live : ByteArray := prog_10_method_31_code
def yX8_live : MethodName := ⟨RX8, "live", "(I)I"⟩
abbrev cX8_inWay : ByteArray := prog_10_method_32_code
def yX8_inWay : MethodName := ⟨RX8, "inWay", "(I)I"⟩
abbrev cX8_weight : ByteArray := prog_10_method_33_code
def yX8_weight : MethodName := ⟨RX8, "weight", "(I)I"⟩
abbrev cX8_home : ByteArray := prog_10_method_34_code
def yX8_home : MethodName := ⟨RX8, "home", "(I)I"⟩
abbrev cX8_order : ByteArray := prog_10_method_35_code
def yX8_order : MethodName := ⟨RX8, "order", "(I)I"⟩
abbrev cX8_slotsOf : ByteArray := prog_10_method_36_code
def yX8_slotsOf : MethodName := ⟨RX8, "slotsOf", "(I)I"⟩
abbrev cX8_count : ByteArray := prog_10_method_37_code
def yX8_count : MethodName := ⟨RX8, "count", "(I)I"⟩
abbrev cX8_item : ByteArray := prog_10_method_38_code
def yX8_item : MethodName := ⟨RX8, "item", "(III)I"⟩
abbrev cX8_begin : ByteArray := prog_10_method_39_code
def yX8_begin : MethodName := ⟨RX8, "begin", "()V"⟩
abbrev cX8_say : ByteArray := prog_10_method_40_code
def yX8_say : MethodName := ⟨RX8, "say", "(I)V"⟩
abbrev cX8_reckoned : ByteArray := prog_10_method_41_code
def yX8_reckoned : MethodName := ⟨RX8, "reckoned", "(III)I"⟩
abbrev cX8_doStep : ByteArray := prog_10_method_42_code
def yX8_doStep : MethodName := ⟨RX8, "doStep", "(I)I"⟩
abbrev cX8_doItem : ByteArray := prog_10_method_43_code
def yX8_doItem : MethodName := ⟨RX8, "doItem", "(II)I"⟩
abbrev cX8_run : ByteArray := prog_10_method_44_code
def yX8_run : MethodName := ⟨RX8, "run", "(II)I"⟩
abbrev cX8_made : ByteArray := prog_10_method_45_code
def yX8_made : MethodName := ⟨RX8, "made", "(I)I"⟩
abbrev cX8_said : ByteArray := prog_10_method_46_code
def yX8_said : MethodName := ⟨RX8, "said", "(I)I"⟩
abbrev cX8_cell : ByteArray := prog_10_method_47_code
def yX8_cell : MethodName := ⟨RX8, "cell", "(I)I"⟩
abbrev cX8_check : ByteArray := prog_10_method_48_code
def yX8_check : MethodName := ⟨RX8, "check", "()I"⟩
def RJ6 : String := "java/lang/Integer"
def TJ6 : u_T := fun k => match k with
  | _ => ("", "", "", false)
def tyJ6 : Nat → FieldType := fun k => match k with
  | _ => .int
abbrev wsJ60 : List Cond := u_ws RJ6 TJ6 0
theorem nmJ6 : ∀ a, a < 0 → ∀ b, b < 0 → a ≠ b → (TJ6 a).2.1 ≠ (TJ6 b).2.1 := by decide +kernel
theorem tyJ6_ok : ∀ k, k < 0 → parseFieldDescriptor (TJ6 k).2.2.1 = some (tyJ6 k) := by decide +kernel
abbrev cJ6_bitCount_0f7a4 : ByteArray := prog_11_method_49_code
def yJ6_bitCount_0f7a4 : MethodName := ⟨RJ6, "bitCount", "(I)I"⟩
def RJ9 : String := "java/lang/Math"
def TJ9 : u_T := fun k => match k with
  | _ => ("", "", "", false)
def tyJ9 : Nat → FieldType := fun k => match k with
  | _ => .int
abbrev wsJ90 : List Cond := u_ws RJ9 TJ9 0
theorem nmJ9 : ∀ a, a < 0 → ∀ b, b < 0 → a ≠ b → (TJ9 a).2.1 ≠ (TJ9 b).2.1 := by decide +kernel
theorem tyJ9_ok : ∀ k, k < 0 → parseFieldDescriptor (TJ9 k).2.2.1 = some (tyJ9 k) := by decide +kernel
abbrev cJ9_floorMod_7cf53 : ByteArray := prog_12_method_50_code
def yJ9_floorMod_7cf53 : MethodName := ⟨RJ9, "floorMod", "(II)I"⟩
abbrev cJ9_max_7cf53 : ByteArray := prog_12_method_65_code
def yJ9_max_7cf53 : MethodName := ⟨RJ9, "max", "(II)I"⟩
abbrev cJ9_min_7cf53 : ByteArray := prog_12_method_69_code
def yJ9_min_7cf53 : MethodName := ⟨RJ9, "min", "(II)I"⟩
def RL : String := "RegisterHouseLaw"
abbrev cL_law : ByteArray := code
def yL_law : MethodName := ⟨RL, "law", "([I)Z"⟩
abbrev vwCl : List vw_C := [(RX0, TX0, 1), (RX1, TX1, 2), (RX2, TX2, 5), (RX3, TX3, 5), (RX4, TX4, 6), (RX5, TX5, 7), (RX6, TX6, 1), (RX7, TX7, 12), (RX8, TX8, 28)]
abbrev am_cl : List vw_C := vwCl
/-- the words that every method of the layer may use -/
def am_tbl : List Cond := lw_tbl.filter goodWord
theorem am_good : am_tbl.all goodWord = true := List.all_eq_true.mpr fun w h => (List.mem_filter.mp h).2
theorem am_in (i : Nat) {w : Cond} (h : lw_tbl[i]? = some w) (g : goodWord w = true) : w ∈ am_tbl := List.mem_filter.mpr ⟨List.mem_of_getElem? h, g⟩
theorem am_sub (ws : List Cond) (ps : List Nat) (hp : ws = ps.filterMap (fun i => lw_tbl[i]?)) (hg : ws.all goodWord = true) : ∀ w ∈ ws, w ∈ am_tbl := by
  intro w hw
  have h1 := List.all_eq_true.mp hg w hw
  rw [hp] at hw
  obtain ⟨i, -, hi⟩ := List.mem_filterMap.mp hw
  exact am_in i hi h1
def am_stat : List (String × String × String × Nat) := [("RegisterHouse", "NAMED", "[I", 0), ("RegisterHouse", "TAKEN", "[I", 1)]
/-- the low rows: the static rows, then the script -/
def am_low : Nat := 3
theorem inAX0 : ∀ w ∈ wsX00, w ∈ am_tbl := am_sub _ [212] (by decide +kernel) (by decide +kernel)
theorem inAX1 : ∀ w ∈ wsX10, w ∈ am_tbl := am_sub _ [173, 175] (by decide +kernel) (by decide +kernel)
theorem inAX2 : ∀ w ∈ wsX20, w ∈ am_tbl := am_sub _ [194, 196, 198, 200, 202] (by decide +kernel) (by decide +kernel)
theorem inAX3 : ∀ w ∈ wsX30, w ∈ am_tbl := am_sub _ [111, 113, 115, 117, 119] (by decide +kernel) (by decide +kernel)
theorem inAX4 : ∀ w ∈ wsX40, w ∈ am_tbl := am_sub _ [244, 246, 248, 250, 252, 254] (by decide +kernel) (by decide +kernel)
theorem inAX5 : ∀ w ∈ wsX50, w ∈ am_tbl := am_sub _ [148, 150, 152, 154, 156, 158, 160] (by decide +kernel) (by decide +kernel)
theorem inAX6 : ∀ w ∈ wsX60, w ∈ am_tbl := am_sub _ [222] (by decide +kernel) (by decide +kernel)
theorem inAX7 : ∀ w ∈ wsX70, w ∈ am_tbl := am_sub _ [269, 271, 273, 275, 277, 279, 281, 283, 285, 287, 289, 291] (by decide +kernel) (by decide +kernel)
theorem inAX8 : ∀ w ∈ wsX80, w ∈ am_tbl := am_sub _ [668, 670, 672, 674, 676, 678, 680, 682, 684, 686, 688, 690, 692, 694, 696, 698, 700, 702, 704, 706, 708, 710, 712, 714, 716, 718, 720, 722] (by decide +kernel) (by decide +kernel)
end
section
/-! THE LAYER: a judgement V over a heap of numbered cells (cell k lies at address B + k), that hides the machine's context. -/
/-- where the law's cells begin, the heap at the law's start, the classes' numbers and slots, the array classes by kind (0 int, 1 boolean), the low rows (address, length, contents): script and static rows -/
abbrev am_G : Type := Nat × Heap × va_G × (Nat → ClassId) × (Nat → Nat × Nat × (Nat → Int32))
abbrev gB (G : am_G) : Nat := G.1
abbrev gH (G : am_G) : Heap := G.2.1
abbrev gD (G : am_G) : va_G := G.2.2.1
abbrev gT (G : am_G) : Nat → ClassId := G.2.2.2.1
abbrev gL (G : am_G) : Nat → Nat × Nat × (Nat → Int32) := G.2.2.2.2
def gA (G : am_G) : Nat → Prop := fun q => gB G ≤ q
/-- a value of the layer, as the machine has it -/
def cV (G : am_G) : Value → Value
  | .ref a => .ref (gB G + a)
  | .retAddr k => .ref (gL G k).1
  | v => v
def cE (G : am_G) : va_E → va_E
  | .inl (k, x) => .inl (gT G k, x)
  | .inr (ci, fs) => .inr (ci, fs.map (cV G))
def gTys (G : am_G) : List (ClassId × FieldType) := [(gT G 0, .int), (gT G 1, .boolean)]
/-- the heap holds the layer's cells, each at its number; below B it is what it was -/
def am_W (G : am_G) (h : List va_E) (H : Heap) : Prop := H.size = gB G + h.length ∧ (∀ q : Nat, q < gB G → H[q]? = (gH G)[q]?) ∧ ∀ (k : Nat) (x : va_E), h[k]? = some x → va_at (gD G) am_cl (gB G + k, cE G x) H
/-- what the tables say, and the low rows -/
def am_K (G : am_G) (U : State) : Prop := va_K (gD G) am_cl (gTys G) U ∧ (∀ k, k < am_low → va_T .int (gL G k).1 (gL G k).2.1 (fun j => .int ((gL G k).2.2 j)) (gA G) U (gH G)) ∧ (∀ z ∈ am_stat, va_Z z.1 z.2.1 z.2.2.1 (.ref (gL G z.2.2.2).1) (gA G) U (gH G))
theorem am_K.moved {G : am_G} {u U : State} (hvm : u.vm.Alike U.vm) (h : am_K G u) : am_K G U := ⟨h.1.moved hvm, fun k hk => (h.2.1 k hk).moved hvm, fun z hz => (h.2.2 z hz).moved hvm⟩
/-- a method: name, bytes, locals, what it returns -/
abbrev am_Y : Type := MethodName × ByteArray × Nat × Option FieldType
def am_Fix (G : am_G) (Y : am_Y) (p : Program) (s : State) (m : MethodId) (args : Array Value) (meth : Method) (c : Code) : Prop :=
  p.tables.exec = Jvm.exec ∧ c.code = Y.2.1 ∧ c.maxLocals = Y.2.2.1 ∧ meth.sig.returnType = Y.2.2.2 ∧ s.vm.findClass Y.1.cls = some m.cls ∧ meth.locks = false ∧ meth.name = Y.1.name ∧ (∀ w ∈ am_tbl, w.before args s = true) ∧ am_K G s ∧ (∀ q : Nat, q < gB G → s.heap[q]? = (gH G)[q]?) ∧ gB G ≤ s.heap.size
theorem am_Fix.exec {G : am_G} {Y : am_Y} {p s m args meth c} (h : am_Fix G Y p s m args meth c) : p.tables.exec = Jvm.exec := h.1
theorem am_Fix.bytes {G : am_G} {Y : am_Y} {p s m args meth c} (h : am_Fix G Y p s m args meth c) : c.code = Y.2.1 := h.2.1
theorem am_Fix.maxL {G : am_G} {Y : am_Y} {p s m args meth c} (h : am_Fix G Y p s m args meth c) : c.maxLocals = Y.2.2.1 := h.2.2.1
theorem am_Fix.returns {G : am_G} {Y : am_Y} {p s m args meth c} (h : am_Fix G Y p s m args meth c) : meth.sig.returnType = Y.2.2.2 := h.2.2.2.1
theorem am_Fix.own {G : am_G} {Y : am_Y} {p s m args meth c} (h : am_Fix G Y p s m args meth c) : s.vm.findClass Y.1.cls = some m.cls := h.2.2.2.2.1
theorem am_Fix.locks {G : am_G} {Y : am_Y} {p s m args meth c} (h : am_Fix G Y p s m args meth c) : meth.locks = false := h.2.2.2.2.2.1
theorem am_Fix.name {G : am_G} {Y : am_Y} {p s m args meth c} (h : am_Fix G Y p s m args meth c) : meth.name = Y.1.name := h.2.2.2.2.2.2.1
theorem am_Fix.hts {G : am_G} {Y : am_Y} {p s m args meth c} (h : am_Fix G Y p s m args meth c) : ∀ w ∈ am_tbl, w.before args s = true := h.2.2.2.2.2.2.2.1
theorem am_Fix.K {G : am_G} {Y : am_Y} {p s m args meth c} (h : am_Fix G Y p s m args meth c) : am_K G s := h.2.2.2.2.2.2.2.2.1
theorem am_Fix.low {G : am_G} {Y : am_Y} {p s m args meth c} (h : am_Fix G Y p s m args meth c) : ∀ q : Nat, q < gB G → s.heap[q]? = (gH G)[q]? := h.2.2.2.2.2.2.2.2.2.1
theorem am_Fix.big {G : am_G} {Y : am_Y} {p s m args meth c} (h : am_Fix G Y p s m args meth c) : gB G ≤ s.heap.size := h.2.2.2.2.2.2.2.2.2.2
abbrev cL (G : am_G) (ls : List (Nat × Value)) : List (Nat × Value) := ls.map (fun q => (q.1, cV G q.2))
/-- from here, with at most k more cells of n slots, the machine comes to Fin -/
def V (G : am_G) (Y : am_Y) (R : Room) (Fn : Array Value → State → List Frame → State → Prop) (k n pc : Nat) (ls : List (Nat × Value)) (st : List Value) (h : List va_E) : Prop :=
  ∀ (p : Program) (l : Launch) (e : Env) (s : State) (m : MethodId) (args : Array Value) (below : List Frame) (meth : Method) (c : Code) (H : Heap) (locs : List Loc) (cells slots : Nat) (lsr : Array Slot),
    am_Fix G Y p s m args meth c → am_W G h H → va_S (gA G) s.heap H locs → lv_has lsr Y.2.2.1 (cL G ls) → cells + k ≤ R.cells → slots + n ≤ R.slots →
    W p l e R s m args below meth c H locs cells slots (Fn args s below) (F0 m pc lsr (st.map (cV G)))
/-- a method's end -/
def am_Q (G : am_G) (Post : Option Value → List va_E → Prop) : Array Value → State → Outcome → State → Prop := fun _ st o t => ∃ (r : Option Value) (h : List va_E), o = .returned (r.map (cV G)) ∧ Post r h ∧ am_W G h t.heap ∧ am_K G t ∧ st.heap.size ≤ t.heap.size
def am_Fin (G : am_G) (mc ms : Nat) (Post : Option Value → List va_E → Prop) : Array Value → State → List Frame → State → Prop := fun args s below => MQ below (am_Q G Post) args s mc ms (gA G)
def am_R (d lo mc ms : Nat) : Room := { frames := d, cells := mc, slots := ms, locals := lo }
def am_ws (Y : am_Y) : List Cond := Cond.code Y.1 Y.2.1 Y.2.2.1 Y.2.2.2 :: am_tbl
/-- the contract of a method at these arguments and cells -/
def Ct (G : am_G) (Y : am_Y) (d lo mc ms : Nat) (as : List Value) (h : List va_E) (Post : Option Value → List va_E → Prop) : Prop :=
  ∀ l : Launch, Met l Y.1 (am_ws Y) (am_R d lo mc ms) (fun v U => v = (as.map (cV G)).toArray ∧ am_W G h U.heap ∧ am_K G U) (am_Q G Post) mc ms (gA G)
/-- the locals with which a method begins -/
def am_as : Nat → List Value → List (Nat × Value)
  | _, [] => []
  | i, v :: vs => (i, v) :: am_as (i + 1) vs
def am_ins (i : Nat) (v : Value) : List (Nat × Value) → List (Nat × Value)
  | [] => [(i, v)]
  | q :: t => if i < q.1 then (i, v) :: q :: t else q :: am_ins i v t
def am_st (i : Nat) (v : Value) (ls : List (Nat × Value)) : List (Nat × Value) := am_ins i v (ls.filter (fun q => !(q.1 == i) && !(q.1 + 1 == i && q.2.category == 2)))
theorem cV_cat (G : am_G) (v : Value) : (cV G v).category = v.category := by cases v <;> rfl
theorem am_ins_mem {i : Nat} {v : Value} : ∀ {ls : List (Nat × Value)} {q : Nat × Value}, q ∈ am_ins i v ls → q = (i, v) ∨ q ∈ ls
  | [], q, h => by simpa [am_ins] using h
  | a :: t, q, h => by
    unfold am_ins at h
    split at h
    · rcases List.mem_cons.mp h with h | h
      · exact Or.inl h
      · exact Or.inr h
    · rcases List.mem_cons.mp h with h | h
      · exact Or.inr (by rw [h]; exact List.mem_cons_self)
      · rcases am_ins_mem h with h | h
        · exact Or.inl h
        · exact Or.inr (List.mem_cons_of_mem _ h)
theorem am_store {G : am_G} {lsr : Array Slot} {nL i : Nat} {v : Value} {ls ls' : List (Nat × Value)} (h : lv_has lsr nL ((i, cV G v) :: (cL G ls).filter (fun q => !(q.1 == i) && !(q.1 + 1 == i && q.2.category == 2)))) (e : am_st i v ls = ls') : lv_has lsr nL (cL G ls') := by
  refine ⟨h.1, h.2.1, fun q hq => ?_⟩
  subst e
  obtain ⟨z, hz, rfl⟩ := List.mem_map.mp hq
  rcases am_ins_mem hz with hz | hz
  · subst hz
    exact h.2.2 (i, cV G v) List.mem_cons_self
  · obtain ⟨h1, h2⟩ := List.mem_filter.mp hz
    refine h.2.2 (z.1, cV G z.2) (List.mem_cons_of_mem _ (List.mem_filter.mpr ⟨List.mem_map.mpr ⟨z, h1, rfl⟩, ?_⟩))
    simpa [cV_cat] using h2
theorem am_has {G : am_G} {lsr : Array Slot} {nL : Nat} {ls : List (Nat × Value)} (h : lv_has lsr nL (cL G ls)) (j : Nat) {i : Nat} {v : Value} (hj : ls[j]? = some (i, v)) : lsr[i]? = some (.val (cV G v)) :=
  h.2.2 (i, cV G v) (List.mem_map.mpr ⟨(i, v), List.mem_of_getElem? hj, rfl⟩)
/-- the cells as the kit's world -/
def cW (G : am_G) (h : List va_E) : va_W := h.mapIdx (fun i x => (gB G + i, cE G x))
theorem cW_get {G : am_G} {h : List va_E} {k : Nat} {x : va_E} (e : h[k]? = some x) : (cW G h)[k]? = some (gB G + k, cE G x) := by simp [cW, e]
theorem am_W.P {G : am_G} {h : List va_E} {H : Heap} (w : am_W G h H) : va_P (gD G) am_cl (cW G h) H := by
  intro k q hq
  simp only [cW, List.getElem?_mapIdx] at hq
  cases e : h[k]? with
  | none => rw [e] at hq; cases hq
  | some x => rw [e] at hq; cases hq; exact w.2.2 k x e
theorem am_W.D {G : am_G} {h : List va_E} : va_D (gA G) (cW G h) := by
  refine ⟨fun i j x y hx hy hxy => ?_, fun k q hq => ?_⟩
  · simp only [cW, List.getElem?_mapIdx] at hx hy
    cases e : h[i]? with
    | none => rw [e] at hx; cases hx
    | some a =>
      cases e2 : h[j]? with
      | none => rw [e2] at hy; cases hy
      | some b =>
        rw [e] at hx; rw [e2] at hy
        cases hx; cases hy
        dsimp only at hxy
        omega
  · simp only [cW, List.getElem?_mapIdx] at hq
    cases e : h[k]? with
    | none => rw [e] at hq; cases hq
    | some a => rw [e] at hq; cases hq; exact Nat.le_add_right _ _
/-- a cell is written -/
theorem am_W.set {G : am_G} {h : List va_E} {H H1 : Heap} {k : Nat} {x0 x : va_E} (w : am_W G h H) (e : h[k]? = some x0) (he : va_at (gD G) am_cl (gB G + k, cE G x) H1) (hz : H1.size = H.size) (oq : ∀ q : Nat, q ≠ gB G + k → H1[q]? = H[q]?) : am_W G (h.set k x) H1 := by
  have hl : k < h.length := (List.getElem?_eq_some_iff.mp e).1
  refine ⟨by rw [hz, w.1, List.length_set], fun q hq => by rw [oq q (by omega)]; exact w.2.1 q hq, fun j y hj => ?_⟩
  by_cases hjk : j = k
  · subst hjk
    rw [List.getElem?_set_self hl] at hj
    cases hj
    exact he
  · rw [List.getElem?_set_ne (Ne.symm hjk)] at hj
    exact (w.2.2 j y hj).kept (oq _ (by omega))
/-- a cell is new -/
theorem am_W.push {G : am_G} {h : List va_E} {H H1 : Heap} {x : va_E} (w : am_W G h H) (he : va_at (gD G) am_cl (gB G + h.length, cE G x) H1) (hz : H1.size = H.size + 1) (oq : ∀ q : Nat, q < H.size → H1[q]? = H[q]?) : am_W G (h ++ [x]) H1 := by
  have h1 := w.1
  refine ⟨by rw [hz, w.1, List.length_append]; simp; omega, fun q hq => by rw [oq q (by omega)]; exact w.2.1 q hq, fun j y hj => ?_⟩
  by_cases hjk : j < h.length
  · rw [List.getElem?_append_left hjk] at hj
    exact (w.2.2 j y hj).kept (oq _ (by dsimp only; omega))
  · rw [List.getElem?_append_right (by omega)] at hj
    have hlt : j - h.length < 1 := (List.getElem?_eq_some_iff.mp hj).1
    have hj0 : j = h.length := by omega
    subst hj0
    rw [Nat.sub_self] at hj
    cases hj
    exact he
theorem am_S.put {G : am_G} {s0 H H1 : Heap} {locs : List Loc} {k j : Nat} (h : va_S (gA G) s0 H locs) (z : H1.size = H.size) (oq : ∀ q : Nat, q ≠ gB G + k → H1[q]? = H[q]?) : va_S (gA G) s0 H1 (locs ++ [⟨gB G + k, j⟩]) := h.put z oq (Nat.le_add_right _ _)
theorem V.iadd {G : am_G} {Y : am_Y} {R : Room} {Fn : Array Value → State → List Frame → State → Prop} {k n pc : Nat} {ls : List (Nat × Value)} {st : List Value} {h : List va_E} {x y : Int32} (hd : decode Y.2.1 pc = .ok (.iadd, 1)) (kk : V G Y R Fn k n (pc + 1) ls (.int (x + y) :: st) h) : V G Y R Fn k n pc ls (.int y :: .int x :: st) h := by
  intro p l e s m args below meth c H locs cells slots lsr X w S hl hc hn
  exact lv_iadd X.exec X.bytes hd (kk p l e s m args below meth c H locs cells slots lsr X w S hl hc hn)
theorem V.isub {G : am_G} {Y : am_Y} {R : Room} {Fn : Array Value → State → List Frame → State → Prop} {k n pc : Nat} {ls : List (Nat × Value)} {st : List Value} {h : List va_E} {x y : Int32} (hd : decode Y.2.1 pc = .ok (.isub, 1)) (kk : V G Y R Fn k n (pc + 1) ls (.int (x - y) :: st) h) : V G Y R Fn k n pc ls (.int y :: .int x :: st) h := by
  intro p l e s m args below meth c H locs cells slots lsr X w S hl hc hn
  exact lv_isub X.exec X.bytes hd (kk p l e s m args below meth c H locs cells slots lsr X w S hl hc hn)
theorem V.imul {G : am_G} {Y : am_Y} {R : Room} {Fn : Array Value → State → List Frame → State → Prop} {k n pc : Nat} {ls : List (Nat × Value)} {st : List Value} {h : List va_E} {x y : Int32} (hd : decode Y.2.1 pc = .ok (.imul, 1)) (kk : V G Y R Fn k n (pc + 1) ls (.int (x * y) :: st) h) : V G Y R Fn k n pc ls (.int y :: .int x :: st) h := by
  intro p l e s m args below meth c H locs cells slots lsr X w S hl hc hn
  exact lv_imul X.exec X.bytes hd (kk p l e s m args below meth c H locs cells slots lsr X w S hl hc hn)
theorem V.iand {G : am_G} {Y : am_Y} {R : Room} {Fn : Array Value → State → List Frame → State → Prop} {k n pc : Nat} {ls : List (Nat × Value)} {st : List Value} {h : List va_E} {x y : Int32} (hd : decode Y.2.1 pc = .ok (.iand, 1)) (kk : V G Y R Fn k n (pc + 1) ls (.int (x &&& y) :: st) h) : V G Y R Fn k n pc ls (.int y :: .int x :: st) h := by
  intro p l e s m args below meth c H locs cells slots lsr X w S hl hc hn
  exact lv_iand X.exec X.bytes hd (kk p l e s m args below meth c H locs cells slots lsr X w S hl hc hn)
theorem V.ior {G : am_G} {Y : am_Y} {R : Room} {Fn : Array Value → State → List Frame → State → Prop} {k n pc : Nat} {ls : List (Nat × Value)} {st : List Value} {h : List va_E} {x y : Int32} (hd : decode Y.2.1 pc = .ok (.ior, 1)) (kk : V G Y R Fn k n (pc + 1) ls (.int (x ||| y) :: st) h) : V G Y R Fn k n pc ls (.int y :: .int x :: st) h := by
  intro p l e s m args below meth c H locs cells slots lsr X w S hl hc hn
  exact lv_ior X.exec X.bytes hd (kk p l e s m args below meth c H locs cells slots lsr X w S hl hc hn)
theorem V.ixor {G : am_G} {Y : am_Y} {R : Room} {Fn : Array Value → State → List Frame → State → Prop} {k n pc : Nat} {ls : List (Nat × Value)} {st : List Value} {h : List va_E} {x y : Int32} (hd : decode Y.2.1 pc = .ok (.ixor, 1)) (kk : V G Y R Fn k n (pc + 1) ls (.int (x ^^^ y) :: st) h) : V G Y R Fn k n pc ls (.int y :: .int x :: st) h := by
  intro p l e s m args below meth c H locs cells slots lsr X w S hl hc hn
  exact lv_ixor X.exec X.bytes hd (kk p l e s m args below meth c H locs cells slots lsr X w S hl hc hn)
theorem V.ishl {G : am_G} {Y : am_Y} {R : Room} {Fn : Array Value → State → List Frame → State → Prop} {k n pc : Nat} {ls : List (Nat × Value)} {st : List Value} {h : List va_E} {x y : Int32} (hd : decode Y.2.1 pc = .ok (.ishl, 1)) (kk : V G Y R Fn k n (pc + 1) ls (.int (x <<< (y &&& 31)) :: st) h) : V G Y R Fn k n pc ls (.int y :: .int x :: st) h := by
  intro p l e s m args below meth c H locs cells slots lsr X w S hl hc hn
  exact lv_ishl X.exec X.bytes hd (kk p l e s m args below meth c H locs cells slots lsr X w S hl hc hn)
theorem V.ishr {G : am_G} {Y : am_Y} {R : Room} {Fn : Array Value → State → List Frame → State → Prop} {k n pc : Nat} {ls : List (Nat × Value)} {st : List Value} {h : List va_E} {x y : Int32} (hd : decode Y.2.1 pc = .ok (.ishr, 1)) (kk : V G Y R Fn k n (pc + 1) ls (.int (x >>> (y &&& 31)) :: st) h) : V G Y R Fn k n pc ls (.int y :: .int x :: st) h := by
  intro p l e s m args below meth c H locs cells slots lsr X w S hl hc hn
  exact lv_ishr X.exec X.bytes hd (kk p l e s m args below meth c H locs cells slots lsr X w S hl hc hn)
theorem V.iushr {G : am_G} {Y : am_Y} {R : Room} {Fn : Array Value → State → List Frame → State → Prop} {k n pc : Nat} {ls : List (Nat × Value)} {st : List Value} {h : List va_E} {x y v : Int32} (hd : decode Y.2.1 pc = .ok (.iushr, 1)) (hv : (x.toUInt32 >>> (y.toUInt32 &&& Int32.toUInt32 31)).toInt32 = v) (kk : V G Y R Fn k n (pc + 1) ls (.int v :: st) h) : V G Y R Fn k n pc ls (.int y :: .int x :: st) h := by
  intro p l e s m args below meth c H locs cells slots lsr X w S hl hc hn
  exact lv_iushr X.exec X.bytes hd hv (kk p l e s m args below meth c H locs cells slots lsr X w S hl hc hn)
theorem V.ineg {G : am_G} {Y : am_Y} {R : Room} {Fn : Array Value → State → List Frame → State → Prop} {k n pc : Nat} {ls : List (Nat × Value)} {st : List Value} {h : List va_E} {x : Int32} (hd : decode Y.2.1 pc = .ok (.ineg, 1)) (kk : V G Y R Fn k n (pc + 1) ls (.int (-x) :: st) h) : V G Y R Fn k n pc ls (.int x :: st) h := by
  intro p l e s m args below meth c H locs cells slots lsr X w S hl hc hn
  exact lv_ineg X.exec X.bytes hd (kk p l e s m args below meth c H locs cells slots lsr X w S hl hc hn)
theorem V.idiv {G : am_G} {Y : am_Y} {R : Room} {Fn : Array Value → State → List Frame → State → Prop} {k n pc : Nat} {ls : List (Nat × Value)} {st : List Value} {h : List va_E} {x y : Int32} (hne : ¬ y = 0) (hd : decode Y.2.1 pc = .ok (.idiv, 1)) (kk : V G Y R Fn k n (pc + 1) ls (.int (x / y) :: st) h) : V G Y R Fn k n pc ls (.int y :: .int x :: st) h := by
  intro p l e s m args below meth c H locs cells slots lsr X w S hl hc hn
  exact lv_idiv X.exec X.bytes hd hne (kk p l e s m args below meth c H locs cells slots lsr X w S hl hc hn)
theorem V.irem {G : am_G} {Y : am_Y} {R : Room} {Fn : Array Value → State → List Frame → State → Prop} {k n pc : Nat} {ls : List (Nat × Value)} {st : List Value} {h : List va_E} {x y : Int32} (hne : ¬ y = 0) (hd : decode Y.2.1 pc = .ok (.irem, 1)) (kk : V G Y R Fn k n (pc + 1) ls (.int (x - x / y * y) :: st) h) : V G Y R Fn k n pc ls (.int y :: .int x :: st) h := by
  intro p l e s m args below meth c H locs cells slots lsr X w S hl hc hn
  exact lv_irem X.exec X.bytes hd hne (kk p l e s m args below meth c H locs cells slots lsr X w S hl hc hn)
theorem V.iconst {G : am_G} {Y : am_Y} {R : Room} {Fn : Array Value → State → List Frame → State → Prop} {k n pc : Nat} {ls : List (Nat × Value)} {st : List Value} {h : List va_E} {z : Int} {v : Int32} (hv : Int32.ofInt z = v) (hd : decode Y.2.1 pc = .ok (.iconst z, 1)) (kk : V G Y R Fn k n (pc + 1) ls (.int v :: st) h) : V G Y R Fn k n pc ls st h := by
  intro p l e s m args below meth c H locs cells slots lsr X w S hl hc hn
  exact lv_iconst X.exec X.bytes hd hv (kk p l e s m args below meth c H locs cells slots lsr X w S hl hc hn)
theorem V.bipush {G : am_G} {Y : am_Y} {R : Room} {Fn : Array Value → State → List Frame → State → Prop} {k n pc : Nat} {ls : List (Nat × Value)} {st : List Value} {h : List va_E} {z : Int} {v : Int32} (hv : (Int8.ofInt z).toInt32 = v) (hd : decode Y.2.1 pc = .ok (.bipush z, 2)) (kk : V G Y R Fn k n (pc + 2) ls (.int v :: st) h) : V G Y R Fn k n pc ls st h := by
  intro p l e s m args below meth c H locs cells slots lsr X w S hl hc hn
  exact lv_bipush X.exec X.bytes hd hv (kk p l e s m args below meth c H locs cells slots lsr X w S hl hc hn)
theorem V.sipush {G : am_G} {Y : am_Y} {R : Room} {Fn : Array Value → State → List Frame → State → Prop} {k n pc : Nat} {ls : List (Nat × Value)} {st : List Value} {h : List va_E} {z : Int} {v : Int32} (hv : (Int16.ofInt z).toInt32 = v) (hd : decode Y.2.1 pc = .ok (.sipush z, 3)) (kk : V G Y R Fn k n (pc + 3) ls (.int v :: st) h) : V G Y R Fn k n pc ls st h := by
  intro p l e s m args below meth c H locs cells slots lsr X w S hl hc hn
  exact lv_sipush X.exec X.bytes hd hv (kk p l e s m args below meth c H locs cells slots lsr X w S hl hc hn)
theorem V.iload_n {G : am_G} {Y : am_Y} {R : Room} {Fn : Array Value → State → List Frame → State → Prop} {k n pc : Nat} {ls : List (Nat × Value)} {st : List Value} {h : List va_E} {i : Fin 4} {j : Nat} {x : Int32} (hj : ls[j]? = some (i.val, .int x)) (hd : decode Y.2.1 pc = .ok (.iload_n i, 1)) (kk : V G Y R Fn k n (pc + 1) ls (.int x :: st) h) : V G Y R Fn k n pc ls st h := by
  intro p l e s m args below meth c H locs cells slots lsr X w S hl hc hn
  exact lv_iload_n X.exec X.bytes hd rfl (am_has hl j hj) (kk p l e s m args below meth c H locs cells slots lsr X w S hl hc hn)
theorem V.iload {G : am_G} {Y : am_Y} {R : Room} {Fn : Array Value → State → List Frame → State → Prop} {k n pc : Nat} {ls : List (Nat × Value)} {st : List Value} {h : List va_E} {i : Nat} {j : Nat} {x : Int32} (hj : ls[j]? = some (i, .int x)) (hd : decode Y.2.1 pc = .ok (.iload i, 2)) (kk : V G Y R Fn k n (pc + 2) ls (.int x :: st) h) : V G Y R Fn k n pc ls st h := by
  intro p l e s m args below meth c H locs cells slots lsr X w S hl hc hn
  exact lv_iload X.exec X.bytes hd (am_has hl j hj) (kk p l e s m args below meth c H locs cells slots lsr X w S hl hc hn)
theorem V.aload_n {G : am_G} {Y : am_Y} {R : Room} {Fn : Array Value → State → List Frame → State → Prop} {k n pc : Nat} {ls : List (Nat × Value)} {st : List Value} {h : List va_E} {i : Fin 4} {j : Nat} {x : Nat} (hj : ls[j]? = some (i.val, .ref x)) (hd : decode Y.2.1 pc = .ok (.aload_n i, 1)) (kk : V G Y R Fn k n (pc + 1) ls (.ref x :: st) h) : V G Y R Fn k n pc ls st h := by
  intro p l e s m args below meth c H locs cells slots lsr X w S hl hc hn
  exact lv_aload_n X.exec X.bytes hd rfl (am_has hl j hj) (kk p l e s m args below meth c H locs cells slots lsr X w S hl hc hn)
theorem V.aload {G : am_G} {Y : am_Y} {R : Room} {Fn : Array Value → State → List Frame → State → Prop} {k n pc : Nat} {ls : List (Nat × Value)} {st : List Value} {h : List va_E} {i : Nat} {j : Nat} {x : Nat} (hj : ls[j]? = some (i, .ref x)) (hd : decode Y.2.1 pc = .ok (.aload i, 2)) (kk : V G Y R Fn k n (pc + 2) ls (.ref x :: st) h) : V G Y R Fn k n pc ls st h := by
  intro p l e s m args below meth c H locs cells slots lsr X w S hl hc hn
  exact lv_aload X.exec X.bytes hd (am_has hl j hj) (kk p l e s m args below meth c H locs cells slots lsr X w S hl hc hn)
theorem V.aload_nL {G : am_G} {Y : am_Y} {R : Room} {Fn : Array Value → State → List Frame → State → Prop} {k n pc : Nat} {ls : List (Nat × Value)} {st : List Value} {h : List va_E} {i : Fin 4} {j : Nat} {x : Nat} (hj : ls[j]? = some (i.val, .retAddr x)) (hd : decode Y.2.1 pc = .ok (.aload_n i, 1)) (kk : V G Y R Fn k n (pc + 1) ls (.retAddr x :: st) h) : V G Y R Fn k n pc ls st h := by
  intro p l e s m args below meth c H locs cells slots lsr X w S hl hc hn
  exact lv_aload_n X.exec X.bytes hd rfl (am_has hl j hj) (kk p l e s m args below meth c H locs cells slots lsr X w S hl hc hn)
theorem V.aloadL {G : am_G} {Y : am_Y} {R : Room} {Fn : Array Value → State → List Frame → State → Prop} {k n pc : Nat} {ls : List (Nat × Value)} {st : List Value} {h : List va_E} {i : Nat} {j : Nat} {x : Nat} (hj : ls[j]? = some (i, .retAddr x)) (hd : decode Y.2.1 pc = .ok (.aload i, 2)) (kk : V G Y R Fn k n (pc + 2) ls (.retAddr x :: st) h) : V G Y R Fn k n pc ls st h := by
  intro p l e s m args below meth c H locs cells slots lsr X w S hl hc hn
  exact lv_aload X.exec X.bytes hd (am_has hl j hj) (kk p l e s m args below meth c H locs cells slots lsr X w S hl hc hn)
theorem V.dup {G : am_G} {Y : am_Y} {R : Room} {Fn : Array Value → State → List Frame → State → Prop} {k n pc : Nat} {ls : List (Nat × Value)} {st : List Value} {h : List va_E} {v : Value} (hv : v.category = 1) (hd : decode Y.2.1 pc = .ok (.dup, 1)) (kk : V G Y R Fn k n (pc + 1) ls (v :: v :: st) h) : V G Y R Fn k n pc ls (v :: st) h := by
  intro p l e s m args below meth c H locs cells slots lsr X w S hl hc hn
  exact lv_dup X.exec X.bytes hd ((cV_cat G v).trans hv) (kk p l e s m args below meth c H locs cells slots lsr X w S hl hc hn)
theorem V.pop {G : am_G} {Y : am_Y} {R : Room} {Fn : Array Value → State → List Frame → State → Prop} {k n pc : Nat} {ls : List (Nat × Value)} {st : List Value} {h : List va_E} {v : Value} (hv : v.category = 1) (hd : decode Y.2.1 pc = .ok (.pop, 1)) (kk : V G Y R Fn k n (pc + 1) ls st h) : V G Y R Fn k n pc ls (v :: st) h := by
  intro p l e s m args below meth c H locs cells slots lsr X w S hl hc hn
  exact lv_pop X.exec X.bytes hd ((cV_cat G v).trans hv) (kk p l e s m args below meth c H locs cells slots lsr X w S hl hc hn)
theorem V.dup_x1 {G : am_G} {Y : am_Y} {R : Room} {Fn : Array Value → State → List Frame → State → Prop} {k n pc : Nat} {ls : List (Nat × Value)} {st : List Value} {h : List va_E} {v u : Value} (hv : v.category = 1) (hu : u.category = 1) (hd : decode Y.2.1 pc = .ok (.dup_x1, 1)) (kk : V G Y R Fn k n (pc + 1) ls (v :: u :: v :: st) h) : V G Y R Fn k n pc ls (v :: u :: st) h := by
  intro p l e s m args below meth c H locs cells slots lsr X w S hl hc hn
  exact lv_dup_x1 X.exec X.bytes hd ((cV_cat G v).trans hv) ((cV_cat G u).trans hu) (kk p l e s m args below meth c H locs cells slots lsr X w S hl hc hn)
theorem V.dup_x2 {G : am_G} {Y : am_Y} {R : Room} {Fn : Array Value → State → List Frame → State → Prop} {k n pc : Nat} {ls : List (Nat × Value)} {st : List Value} {h : List va_E} {v u t : Value} (hv : v.category = 1) (hu : u.category = 1) (ht : t.category = 1) (hd : decode Y.2.1 pc = .ok (.dup_x2, 1)) (kk : V G Y R Fn k n (pc + 1) ls (v :: u :: t :: v :: st) h) : V G Y R Fn k n pc ls (v :: u :: t :: st) h := by
  intro p l e s m args below meth c H locs cells slots lsr X w S hl hc hn
  exact lv_dup_x2 X.exec X.bytes hd ((cV_cat G v).trans hv) ((cV_cat G u).trans hu) ((cV_cat G t).trans ht) (kk p l e s m args below meth c H locs cells slots lsr X w S hl hc hn)
theorem V.dup2 {G : am_G} {Y : am_Y} {R : Room} {Fn : Array Value → State → List Frame → State → Prop} {k n pc : Nat} {ls : List (Nat × Value)} {st : List Value} {h : List va_E} {v u : Value} (hv : v.category = 1) (hu : u.category = 1) (hd : decode Y.2.1 pc = .ok (.dup2, 1)) (kk : V G Y R Fn k n (pc + 1) ls (v :: u :: v :: u :: st) h) : V G Y R Fn k n pc ls (v :: u :: st) h := by
  intro p l e s m args below meth c H locs cells slots lsr X w S hl hc hn
  exact lv_dup2_11 X.exec X.bytes hd ((cV_cat G v).trans hv) ((cV_cat G u).trans hu) (kk p l e s m args below meth c H locs cells slots lsr X w S hl hc hn)
theorem V.istore_n {G : am_G} {Y : am_Y} {R : Room} {Fn : Array Value → State → List Frame → State → Prop} {k n pc : Nat} {ls : List (Nat × Value)} {st : List Value} {h : List va_E} {i : Fin 4} {x : Int32} {ls' : List (Nat × Value)} (hd : decode Y.2.1 pc = .ok (.istore_n i, 1)) (hi : i.val < Y.2.2.1) (hls : am_st i.val (.int x) ls = ls') (kk : V G Y R Fn k n (pc + 1) ls' st h) : V G Y R Fn k n pc ls (.int x :: st) h := by
  intro p l e s m args below meth c H locs cells slots lsr X w S hl hc hn
  exact lv_istore_n X.exec X.bytes hd rfl hl hi rfl (fun lsr' hl' => kk p l e s m args below meth c H locs cells slots lsr' X w S (am_store (v := .int x) hl' hls) hc hn)
theorem V.istore {G : am_G} {Y : am_Y} {R : Room} {Fn : Array Value → State → List Frame → State → Prop} {k n pc : Nat} {ls : List (Nat × Value)} {st : List Value} {h : List va_E} {i : Nat} {x : Int32} {ls' : List (Nat × Value)} (hd : decode Y.2.1 pc = .ok (.istore i, 2)) (hi : i < Y.2.2.1) (hls : am_st i (.int x) ls = ls') (kk : V G Y R Fn k n (pc + 2) ls' st h) : V G Y R Fn k n pc ls (.int x :: st) h := by
  intro p l e s m args below meth c H locs cells slots lsr X w S hl hc hn
  exact lv_istore X.exec X.bytes hd hl hi rfl (fun lsr' hl' => kk p l e s m args below meth c H locs cells slots lsr' X w S (am_store (v := .int x) hl' hls) hc hn)
theorem V.astore_n {G : am_G} {Y : am_Y} {R : Room} {Fn : Array Value → State → List Frame → State → Prop} {k n pc : Nat} {ls : List (Nat × Value)} {st : List Value} {h : List va_E} {i : Fin 4} {x : Nat} {ls' : List (Nat × Value)} (hd : decode Y.2.1 pc = .ok (.astore_n i, 1)) (hi : i.val < Y.2.2.1) (hls : am_st i.val (.ref x) ls = ls') (kk : V G Y R Fn k n (pc + 1) ls' st h) : V G Y R Fn k n pc ls (.ref x :: st) h := by
  intro p l e s m args below meth c H locs cells slots lsr X w S hl hc hn
  exact lv_astore_n X.exec X.bytes hd rfl hl hi rfl (fun lsr' hl' => kk p l e s m args below meth c H locs cells slots lsr' X w S (am_store (v := .ref x) hl' hls) hc hn)
theorem V.astore {G : am_G} {Y : am_Y} {R : Room} {Fn : Array Value → State → List Frame → State → Prop} {k n pc : Nat} {ls : List (Nat × Value)} {st : List Value} {h : List va_E} {i : Nat} {x : Nat} {ls' : List (Nat × Value)} (hd : decode Y.2.1 pc = .ok (.astore i, 2)) (hi : i < Y.2.2.1) (hls : am_st i (.ref x) ls = ls') (kk : V G Y R Fn k n (pc + 2) ls' st h) : V G Y R Fn k n pc ls (.ref x :: st) h := by
  intro p l e s m args below meth c H locs cells slots lsr X w S hl hc hn
  exact lv_astore X.exec X.bytes hd hl hi rfl (fun lsr' hl' => kk p l e s m args below meth c H locs cells slots lsr' X w S (am_store (v := .ref x) hl' hls) hc hn)
theorem V.astore_nL {G : am_G} {Y : am_Y} {R : Room} {Fn : Array Value → State → List Frame → State → Prop} {k n pc : Nat} {ls : List (Nat × Value)} {st : List Value} {h : List va_E} {i : Fin 4} {x : Nat} {ls' : List (Nat × Value)} (hd : decode Y.2.1 pc = .ok (.astore_n i, 1)) (hi : i.val < Y.2.2.1) (hls : am_st i.val (.retAddr x) ls = ls') (kk : V G Y R Fn k n (pc + 1) ls' st h) : V G Y R Fn k n pc ls (.retAddr x :: st) h := by
  intro p l e s m args below meth c H locs cells slots lsr X w S hl hc hn
  exact lv_astore_n X.exec X.bytes hd rfl hl hi rfl (fun lsr' hl' => kk p l e s m args below meth c H locs cells slots lsr' X w S (am_store (v := .retAddr x) hl' hls) hc hn)
theorem V.astoreL {G : am_G} {Y : am_Y} {R : Room} {Fn : Array Value → State → List Frame → State → Prop} {k n pc : Nat} {ls : List (Nat × Value)} {st : List Value} {h : List va_E} {i : Nat} {x : Nat} {ls' : List (Nat × Value)} (hd : decode Y.2.1 pc = .ok (.astore i, 2)) (hi : i < Y.2.2.1) (hls : am_st i (.retAddr x) ls = ls') (kk : V G Y R Fn k n (pc + 2) ls' st h) : V G Y R Fn k n pc ls (.retAddr x :: st) h := by
  intro p l e s m args below meth c H locs cells slots lsr X w S hl hc hn
  exact lv_astore X.exec X.bytes hd hl hi rfl (fun lsr' hl' => kk p l e s m args below meth c H locs cells slots lsr' X w S (am_store (v := .retAddr x) hl' hls) hc hn)
theorem V.iinc {G : am_G} {Y : am_Y} {R : Room} {Fn : Array Value → State → List Frame → State → Prop} {k n pc : Nat} {ls : List (Nat × Value)} {st : List Value} {h : List va_E} {i j : Nat} {z : Int} {x v : Int32} {ls' : List (Nat × Value)} (hd : decode Y.2.1 pc = .ok (.iinc i z, 3)) (hj : ls[j]? = some (i, .int x)) (hv : x + Int32.ofInt z = v) (hi : i < Y.2.2.1) (hls : am_st i (.int v) ls = ls') (kk : V G Y R Fn k n (pc + 3) ls' st h) : V G Y R Fn k n pc ls st h := by
  intro p l e s m args below meth c H locs cells slots lsr X w S hl hc hn
  exact lv_iinc (k := j) X.exec X.bytes hd hl (by simp [hj]; rfl) hv hi rfl (fun lsr' hl' => kk p l e s m args below meth c H locs cells slots lsr' X w S (am_store (v := .int v) hl' hls) hc hn)
theorem V.goto {G : am_G} {Y : am_Y} {R : Room} {Fn : Array Value → State → List Frame → State → Prop} {k n pc : Nat} {ls : List (Nat × Value)} {st : List Value} {h : List va_E} {off : Int} {tgt : Nat} (hd : decode Y.2.1 pc = .ok (.goto off, 3)) (ht : (pc : Int) + off = (tgt : Int)) (kk : V G Y R Fn k n tgt ls st h) : V G Y R Fn k n pc ls st h := by
  intro p l e s m args below meth c H locs cells slots lsr X w S hl hc hn
  exact lv_goto X.exec X.bytes hd ht (kk p l e s m args below meth c H locs cells slots lsr X w S hl hc hn)
theorem V.if_eq {G : am_G} {Y : am_Y} {R : Room} {Fn : Array Value → State → List Frame → State → Prop} {k n pc : Nat} {ls : List (Nat × Value)} {st : List Value} {h : List va_E} {x : Int32} {off : Int} {tgt : Nat} (hd : decode Y.2.1 pc = .ok (.ifCond .eq off, 3)) (ht : (pc : Int) + off = (tgt : Int)) (kt : x = 0 → V G Y R Fn k n tgt ls st h) (kf : ¬ x = 0 → V G Y R Fn k n (pc + 3) ls st h) : V G Y R Fn k n pc ls (.int x :: st) h := by
  intro p l e s m args below meth c H locs cells slots lsr X w S hl hc hn
  exact lv_if_eq X.exec X.bytes hd ht (fun z => kt z p l e s m args below meth c H locs cells slots lsr X w S hl hc hn) (fun z => kf z p l e s m args below meth c H locs cells slots lsr X w S hl hc hn)
theorem V.icmp_eq {G : am_G} {Y : am_Y} {R : Room} {Fn : Array Value → State → List Frame → State → Prop} {k n pc : Nat} {ls : List (Nat × Value)} {st : List Value} {h : List va_E} {x y : Int32} {off : Int} {tgt : Nat} (hd : decode Y.2.1 pc = .ok (.if_icmp .eq off, 3)) (ht : (pc : Int) + off = (tgt : Int)) (kt : x = y → V G Y R Fn k n tgt ls st h) (kf : ¬ x = y → V G Y R Fn k n (pc + 3) ls st h) : V G Y R Fn k n pc ls (.int y :: .int x :: st) h := by
  intro p l e s m args below meth c H locs cells slots lsr X w S hl hc hn
  exact lv_icmp_eq X.exec X.bytes hd ht (fun z => kt z p l e s m args below meth c H locs cells slots lsr X w S hl hc hn) (fun z => kf z p l e s m args below meth c H locs cells slots lsr X w S hl hc hn)
theorem V.if_ne {G : am_G} {Y : am_Y} {R : Room} {Fn : Array Value → State → List Frame → State → Prop} {k n pc : Nat} {ls : List (Nat × Value)} {st : List Value} {h : List va_E} {x : Int32} {off : Int} {tgt : Nat} (hd : decode Y.2.1 pc = .ok (.ifCond .ne off, 3)) (ht : (pc : Int) + off = (tgt : Int)) (kt : ¬ x = 0 → V G Y R Fn k n tgt ls st h) (kf : x = 0 → V G Y R Fn k n (pc + 3) ls st h) : V G Y R Fn k n pc ls (.int x :: st) h := by
  intro p l e s m args below meth c H locs cells slots lsr X w S hl hc hn
  exact lv_if_ne X.exec X.bytes hd ht (fun z => kt z p l e s m args below meth c H locs cells slots lsr X w S hl hc hn) (fun z => kf z p l e s m args below meth c H locs cells slots lsr X w S hl hc hn)
theorem V.icmp_ne {G : am_G} {Y : am_Y} {R : Room} {Fn : Array Value → State → List Frame → State → Prop} {k n pc : Nat} {ls : List (Nat × Value)} {st : List Value} {h : List va_E} {x y : Int32} {off : Int} {tgt : Nat} (hd : decode Y.2.1 pc = .ok (.if_icmp .ne off, 3)) (ht : (pc : Int) + off = (tgt : Int)) (kt : ¬ x = y → V G Y R Fn k n tgt ls st h) (kf : x = y → V G Y R Fn k n (pc + 3) ls st h) : V G Y R Fn k n pc ls (.int y :: .int x :: st) h := by
  intro p l e s m args below meth c H locs cells slots lsr X w S hl hc hn
  exact lv_icmp_ne X.exec X.bytes hd ht (fun z => kt z p l e s m args below meth c H locs cells slots lsr X w S hl hc hn) (fun z => kf z p l e s m args below meth c H locs cells slots lsr X w S hl hc hn)
theorem V.if_lt {G : am_G} {Y : am_Y} {R : Room} {Fn : Array Value → State → List Frame → State → Prop} {k n pc : Nat} {ls : List (Nat × Value)} {st : List Value} {h : List va_E} {x : Int32} {off : Int} {tgt : Nat} (hd : decode Y.2.1 pc = .ok (.ifCond .lt off, 3)) (ht : (pc : Int) + off = (tgt : Int)) (kt : x < 0 → V G Y R Fn k n tgt ls st h) (kf : ¬ x < 0 → V G Y R Fn k n (pc + 3) ls st h) : V G Y R Fn k n pc ls (.int x :: st) h := by
  intro p l e s m args below meth c H locs cells slots lsr X w S hl hc hn
  exact lv_if_lt X.exec X.bytes hd ht (fun z => kt z p l e s m args below meth c H locs cells slots lsr X w S hl hc hn) (fun z => kf z p l e s m args below meth c H locs cells slots lsr X w S hl hc hn)
theorem V.icmp_lt {G : am_G} {Y : am_Y} {R : Room} {Fn : Array Value → State → List Frame → State → Prop} {k n pc : Nat} {ls : List (Nat × Value)} {st : List Value} {h : List va_E} {x y : Int32} {off : Int} {tgt : Nat} (hd : decode Y.2.1 pc = .ok (.if_icmp .lt off, 3)) (ht : (pc : Int) + off = (tgt : Int)) (kt : x < y → V G Y R Fn k n tgt ls st h) (kf : ¬ x < y → V G Y R Fn k n (pc + 3) ls st h) : V G Y R Fn k n pc ls (.int y :: .int x :: st) h := by
  intro p l e s m args below meth c H locs cells slots lsr X w S hl hc hn
  exact lv_icmp_lt X.exec X.bytes hd ht (fun z => kt z p l e s m args below meth c H locs cells slots lsr X w S hl hc hn) (fun z => kf z p l e s m args below meth c H locs cells slots lsr X w S hl hc hn)
theorem V.if_ge {G : am_G} {Y : am_Y} {R : Room} {Fn : Array Value → State → List Frame → State → Prop} {k n pc : Nat} {ls : List (Nat × Value)} {st : List Value} {h : List va_E} {x : Int32} {off : Int} {tgt : Nat} (hd : decode Y.2.1 pc = .ok (.ifCond .ge off, 3)) (ht : (pc : Int) + off = (tgt : Int)) (kt : 0 ≤ x → V G Y R Fn k n tgt ls st h) (kf : ¬ 0 ≤ x → V G Y R Fn k n (pc + 3) ls st h) : V G Y R Fn k n pc ls (.int x :: st) h := by
  intro p l e s m args below meth c H locs cells slots lsr X w S hl hc hn
  exact lv_if_ge X.exec X.bytes hd ht (fun z => kt z p l e s m args below meth c H locs cells slots lsr X w S hl hc hn) (fun z => kf z p l e s m args below meth c H locs cells slots lsr X w S hl hc hn)
theorem V.icmp_ge {G : am_G} {Y : am_Y} {R : Room} {Fn : Array Value → State → List Frame → State → Prop} {k n pc : Nat} {ls : List (Nat × Value)} {st : List Value} {h : List va_E} {x y : Int32} {off : Int} {tgt : Nat} (hd : decode Y.2.1 pc = .ok (.if_icmp .ge off, 3)) (ht : (pc : Int) + off = (tgt : Int)) (kt : y ≤ x → V G Y R Fn k n tgt ls st h) (kf : ¬ y ≤ x → V G Y R Fn k n (pc + 3) ls st h) : V G Y R Fn k n pc ls (.int y :: .int x :: st) h := by
  intro p l e s m args below meth c H locs cells slots lsr X w S hl hc hn
  exact lv_icmp_ge X.exec X.bytes hd ht (fun z => kt z p l e s m args below meth c H locs cells slots lsr X w S hl hc hn) (fun z => kf z p l e s m args below meth c H locs cells slots lsr X w S hl hc hn)
theorem V.if_gt {G : am_G} {Y : am_Y} {R : Room} {Fn : Array Value → State → List Frame → State → Prop} {k n pc : Nat} {ls : List (Nat × Value)} {st : List Value} {h : List va_E} {x : Int32} {off : Int} {tgt : Nat} (hd : decode Y.2.1 pc = .ok (.ifCond .gt off, 3)) (ht : (pc : Int) + off = (tgt : Int)) (kt : 0 < x → V G Y R Fn k n tgt ls st h) (kf : ¬ 0 < x → V G Y R Fn k n (pc + 3) ls st h) : V G Y R Fn k n pc ls (.int x :: st) h := by
  intro p l e s m args below meth c H locs cells slots lsr X w S hl hc hn
  exact lv_if_gt X.exec X.bytes hd ht (fun z => kt z p l e s m args below meth c H locs cells slots lsr X w S hl hc hn) (fun z => kf z p l e s m args below meth c H locs cells slots lsr X w S hl hc hn)
theorem V.icmp_gt {G : am_G} {Y : am_Y} {R : Room} {Fn : Array Value → State → List Frame → State → Prop} {k n pc : Nat} {ls : List (Nat × Value)} {st : List Value} {h : List va_E} {x y : Int32} {off : Int} {tgt : Nat} (hd : decode Y.2.1 pc = .ok (.if_icmp .gt off, 3)) (ht : (pc : Int) + off = (tgt : Int)) (kt : y < x → V G Y R Fn k n tgt ls st h) (kf : ¬ y < x → V G Y R Fn k n (pc + 3) ls st h) : V G Y R Fn k n pc ls (.int y :: .int x :: st) h := by
  intro p l e s m args below meth c H locs cells slots lsr X w S hl hc hn
  exact lv_icmp_gt X.exec X.bytes hd ht (fun z => kt z p l e s m args below meth c H locs cells slots lsr X w S hl hc hn) (fun z => kf z p l e s m args below meth c H locs cells slots lsr X w S hl hc hn)
theorem V.if_le {G : am_G} {Y : am_Y} {R : Room} {Fn : Array Value → State → List Frame → State → Prop} {k n pc : Nat} {ls : List (Nat × Value)} {st : List Value} {h : List va_E} {x : Int32} {off : Int} {tgt : Nat} (hd : decode Y.2.1 pc = .ok (.ifCond .le off, 3)) (ht : (pc : Int) + off = (tgt : Int)) (kt : x ≤ 0 → V G Y R Fn k n tgt ls st h) (kf : ¬ x ≤ 0 → V G Y R Fn k n (pc + 3) ls st h) : V G Y R Fn k n pc ls (.int x :: st) h := by
  intro p l e s m args below meth c H locs cells slots lsr X w S hl hc hn
  exact lv_if_le X.exec X.bytes hd ht (fun z => kt z p l e s m args below meth c H locs cells slots lsr X w S hl hc hn) (fun z => kf z p l e s m args below meth c H locs cells slots lsr X w S hl hc hn)
theorem V.icmp_le {G : am_G} {Y : am_Y} {R : Room} {Fn : Array Value → State → List Frame → State → Prop} {k n pc : Nat} {ls : List (Nat × Value)} {st : List Value} {h : List va_E} {x y : Int32} {off : Int} {tgt : Nat} (hd : decode Y.2.1 pc = .ok (.if_icmp .le off, 3)) (ht : (pc : Int) + off = (tgt : Int)) (kt : x ≤ y → V G Y R Fn k n tgt ls st h) (kf : ¬ x ≤ y → V G Y R Fn k n (pc + 3) ls st h) : V G Y R Fn k n pc ls (.int y :: .int x :: st) h := by
  intro p l e s m args below meth c H locs cells slots lsr X w S hl hc hn
  exact lv_icmp_le X.exec X.bytes hd ht (fun z => kt z p l e s m args below meth c H locs cells slots lsr X w S hl hc hn) (fun z => kf z p l e s m args below meth c H locs cells slots lsr X w S hl hc hn)
theorem V.tableIn {G : am_G} {Y : am_Y} {R : Room} {Fn : Array Value → State → List Frame → State → Prop} {k n pc : Nat} {ls : List (Nat × Value)} {st : List Value} {h : List va_E} {x : Int32} {dflt lo hi off : Int} {offs : Array Int} {len tgt : Nat} (hd : decode Y.2.1 pc = .ok (.tableswitch dflt lo hi offs, len)) (h1 : ¬ x.toInt < lo) (h2 : ¬ hi < x.toInt) (ho : offs[(x.toInt - lo).toNat]? = some off) (ht : (pc : Int) + off = (tgt : Int)) (kk : V G Y R Fn k n tgt ls st h) : V G Y R Fn k n pc ls (.int x :: st) h := by
  intro p l e s m args below meth c H locs cells slots lsr X w S hl hc hn
  exact lv_tableIn X.exec X.bytes hd h1 h2 ho ht (kk p l e s m args below meth c H locs cells slots lsr X w S hl hc hn)
theorem V.tableOut {G : am_G} {Y : am_Y} {R : Room} {Fn : Array Value → State → List Frame → State → Prop} {k n pc : Nat} {ls : List (Nat × Value)} {st : List Value} {h : List va_E} {x : Int32} {dflt lo hi : Int} {offs : Array Int} {len tgt : Nat} (hd : decode Y.2.1 pc = .ok (.tableswitch dflt lo hi offs, len)) (hz : x.toInt < lo ∨ hi < x.toInt) (ht : (pc : Int) + dflt = (tgt : Int)) (kk : V G Y R Fn k n tgt ls st h) : V G Y R Fn k n pc ls (.int x :: st) h := by
  intro p l e s m args below meth c H locs cells slots lsr X w S hl hc hn
  exact lv_tableOut X.exec X.bytes hd hz ht (kk p l e s m args below meth c H locs cells slots lsr X w S hl hc hn)
theorem V.lookup {G : am_G} {Y : am_Y} {R : Room} {Fn : Array Value → State → List Frame → State → Prop} {k n pc : Nat} {ls : List (Nat × Value)} {st : List Value} {h : List va_E} {x : Int32} {dflt off : Int} {ps : Array (Int × Int)} {len tgt : Nat} (hd : decode Y.2.1 pc = .ok (.lookupswitch dflt ps, len)) (hp : (ps.toList.zip (ps.toList.drop 1)).all (fun (a, next) => a.1 < next.1) = true) (ho : Op.lookupswitch.offset ps.toList dflt x.toInt = off) (ht : (pc : Int) + off = (tgt : Int)) (kk : V G Y R Fn k n tgt ls st h) : V G Y R Fn k n pc ls (.int x :: st) h := by
  intro p l e s m args below meth c H locs cells slots lsr X w S hl hc hn
  exact lv_lookup X.exec X.bytes hd hp ho ht (kk p l e s m args below meth c H locs cells slots lsr X w S hl hc hn)
/-- a field reference of a class: which class of ours, which field -/
def am_fd (own : String) (idx ci j : Nat) : Prop := ∃ (C : String) (T : u_T) (N : Nat), am_cl[ci]? = some (C, T, N) ∧ j < N ∧ Cond.fieldLink own idx (T j).1 (T j).2.1 (T j).2.2.1 ∈ am_tbl ∧ ∀ w ∈ u_ws C T N, w ∈ am_tbl
theorem V.get {G : am_G} {Y : am_Y} {R : Room} {Fn : Array Value → State → List Frame → State → Prop} {k n pc : Nat} {ls : List (Nat × Value)} {st : List Value} {h : List va_E} {idx a ci j : Nat} {fs : List Value} {v : Value} (hd : decode Y.2.1 pc = .ok (.getfield idx, 3)) (hf : am_fd Y.1.cls idx ci j) (he : h[a]? = some (.inr (ci, fs))) (hv : fs[j]? = some v) (kk : V G Y R Fn k n (pc + 3) ls (v :: st) h) : V G Y R Fn k n pc ls (.ref a :: st) h := by
  intro p l e s m args below meth c H locs cells slots lsr X w S hl hc hn
  obtain ⟨C, T, N, h1, h2, h3, h4⟩ := hf
  exact va_get (D := gD G) (cl := am_cl) (v := cV G v) (fs := fs.map (cV G)) X.exec X.bytes X.hts h4 X.own X.K.1 w.P a (cW_get he) h1 j h2 (X.hts _ h3) (fun _ z => z) (by simp [hv]) hd (kk p l e s m args below meth c H locs cells slots lsr X w S hl hc hn)
/-- a field that may be written: its types -/
def am_pd (own : String) (idx ci j : Nat) (ty : FieldType) (fin : Bool) (C : String) : Prop := ∃ (T : u_T) (N : Nat) (t0 : Nat → FieldType), am_cl[ci]? = some (C, T, N) ∧ j < N ∧ Cond.fieldLink own idx (T j).1 (T j).2.1 (T j).2.2.1 ∈ am_tbl ∧ (∀ w ∈ u_ws C T N, w ∈ am_tbl) ∧ (∀ k, k < N → parseFieldDescriptor (T k).2.2.1 = some (t0 k)) ∧ (∀ a, a < N → ∀ b, b < N → a ≠ b → (T a).2.1 ≠ (T b).2.1) ∧ t0 j = ty ∧ (T j).2.2.2 = fin ∧ (T j).1 = C
/-- what a value of the layer may be stored as -/
def am_ok (ty : FieldType) (v : Value) : Prop := match v with
  | .int x => narrow ty (.int x) = .int x ∧ fits ty (.int x) = true
  | .ref _ => (∃ C, ty = .object C) ∨ (∃ t, ty = .array t)
  | .null => (∃ C, ty = .object C) ∨ (∃ t, ty = .array t)
  | _ => False
theorem am_ok.use {ty : FieldType} {v : Value} (G : am_G) (o : am_ok ty v) : narrow ty (cV G v) = cV G v ∧ fits ty (cV G v) = true := by
  cases v with
  | int x => exact o
  | ref a => rcases o with ⟨C, rfl⟩ | ⟨t, rfl⟩ <;> exact ⟨rfl, rfl⟩
  | null => rcases o with ⟨C, rfl⟩ | ⟨t, rfl⟩ <;> exact ⟨rfl, rfl⟩
  | long x => exact o.elim
  | float x => exact o.elim
  | double x => exact o.elim
  | retAddr x => exact o.elim
theorem am_set_at {G : am_G} {C : String} {T : u_T} {N ci a j : Nat} {fs : List Value} {v : Value} {H1 : Heap} {cell : Cell} (hc : am_cl[ci]? = some (C, T, N)) (q2 : cell.cls = (gD G).1 ci) (q3 : cell.vm = .none) (q4 : ∀ k, k < N → cell.slots[(gD G).2 ci k]? = some (vp_V (fs.map (cV G)) k)) (hap : ∀ x y, x < N → y < N → x ≠ y → (gD G).2 ci x ≠ (gD G).2 ci y) (hj : j < N) (hl : j < fs.length) (e1 : H1[gB G + a]? = some (cell.setSlot ((gD G).2 ci j) (cV G v))) : va_at (gD G) am_cl (gB G + a, cE G (.inr (ci, fs.set j v))) H1 := by
  refine ⟨_, hc, t_OB.to (V := updV (vp_V (fs.map (cV G))) j (cV G v)) ⟨_, e1, q2, q3, t_set q4 hap hj (cV G v)⟩ (fun x _ => ?_)⟩
  rw [List.map_set]
  exact vp_updV_set (by rw [List.length_map]; exact hl) (cV G v) x
theorem V.put {G : am_G} {Y : am_Y} {R : Room} {Fn : Array Value → State → List Frame → State → Prop} {k n pc : Nat} {ls : List (Nat × Value)} {st : List Value} {h : List va_E} {idx a ci j : Nat} {fs : List Value} {v : Value} {ty : FieldType} {h' : List va_E} {C : String} (hd : decode Y.2.1 pc = .ok (.putfield idx, 3)) (hf : am_pd Y.1.cls idx ci j ty false C) (he : h[a]? = some (.inr (ci, fs))) (hj : j < fs.length) (ho : am_ok ty v) (hh : h.set a (.inr (ci, fs.set j v)) = h') (kk : V G Y R Fn k n (pc + 3) ls st h') : V G Y R Fn k n pc ls (v :: .ref a :: st) h := by
  intro p l e s m args below meth c H locs cells slots lsr X w S hl hc hn
  subst hh
  obtain ⟨T, N, t0, h1, h2, h3, h4, h5, h6, h7, h8, h9⟩ := hf
  have hK := X.K.1
  have hap := va_apart (own := Y.1.cls) X.hts h4 t0 h5 h6 hK h1
  obtain ⟨r, g1, cell, q1, q2, q3, q4⟩ := w.2.2 a _ he
  have hr : r = (C, T, N) := Option.some.inj (g1.symm.trans h1)
  subst hr
  obtain ⟨hS, hfc, kC, hkC, hkind⟩ := hK.1 ci _ h1
  obtain ⟨cf, kf, fi, f, hi, hsl⟩ := hS j h2
  have hlay := X.hts _ (h4 _ (u_in_lay h2))
  unfold u_lay at hlay
  rw [if_neg (by rw [h8]; decide)] at hlay
  have hst := (u_facts hfc hkC (u_lays X.hts h4 h2) hi).1
  have h10 := u_store hfc hkC hkind hlay hi (h7 ▸ h5 j h2) (ho.use G).1 (ho.use G).2
  refine W.putK X.exec X.bytes (f := f) ⟨X.own, X.hts _ h3, ⟨_, _, _, hi⟩, hst⟩ (by rw [q2]; exact h10) q1 q3 (by rw [hsl]; exact k2_hasslot (q4 j h2)) rfl rfl hd fun H' e1 e2 e3 => ?_
  rw [hsl] at e1
  exact kk p l e s m args below meth c H' _ cells slots lsr X (w.set he (am_set_at h1 q2 q3 q4 hap h2 hj e1) e2 e3) (am_S.put S e2 e3) hl hc hn
theorem V.putF {G : am_G} {Y : am_Y} {R : Room} {Fn : Array Value → State → List Frame → State → Prop} {k n pc : Nat} {ls : List (Nat × Value)} {st : List Value} {h : List va_E} {idx a ci j : Nat} {fs : List Value} {v : Value} {ty : FieldType} {h' : List va_E} {C : String} (hd : decode Y.2.1 pc = .ok (.putfield idx, 3)) (hf : am_pd Y.1.cls idx ci j ty true C) (hown : Y.1.cls = C) (hin : Y.1.name = "<init>") (he : h[a]? = some (.inr (ci, fs))) (hj : j < fs.length) (ho : am_ok ty v) (hh : h.set a (.inr (ci, fs.set j v)) = h') (kk : V G Y R Fn k n (pc + 3) ls st h') : V G Y R Fn k n pc ls (v :: .ref a :: st) h := by
  intro p l e s m args below meth c H locs cells slots lsr X w S hl hc hn
  subst hh
  obtain ⟨T, N, t0, h1, h2, h3, h4, h5, h6, h7, h8, h9⟩ := hf
  have hK := X.K.1
  have hap := va_apart (own := Y.1.cls) X.hts h4 t0 h5 h6 hK h1
  obtain ⟨r, g1, cell, q1, q2, q3, q4⟩ := w.2.2 a _ he
  have hr : r = (C, T, N) := Option.some.inj (g1.symm.trans h1)
  subst hr
  obtain ⟨hS, hfc, kC, hkC, hkind⟩ := hK.1 ci _ h1
  obtain ⟨cf, kf, fi, f, hi, hsl⟩ := hS j h2
  have hlay := X.hts _ (h4 _ (u_in_lay h2))
  unfold u_lay at hlay
  rw [if_pos h8] at hlay
  have hst := (u_facts hfc hkC (u_lays X.hts h4 h2) hi).1
  have hcf : m.cls = cf := by
    obtain ⟨_, _, c', _, _, _, -, -, hf', -, -, -, hown2, -⟩ := Cond.laysFinal_spec hlay
    have e1 : c' = cf := by have := hi.symm.trans hf'; simp at this; exact this.1.symm
    rw [h9, ← hown] at hown2
    rw [← e1]; exact Option.some.inj (X.own.symm.trans hown2)
  have h10 := u_fits hfc hkC hkind (Or.inr hlay) hi (h7 ▸ h5 j h2) (ho.use G).1 (ho.use G).2
  refine W.putFinK X.exec X.bytes X.own (X.hts _ h3) hi hst hcf (X.name.trans hin) (by rw [q2]; exact h10) q1 q3 (by rw [hsl]; exact k2_hasslot (q4 j h2)) rfl rfl hd fun H' e1 e2 e3 => ?_
  rw [hsl] at e1
  exact kk p l e s m args below meth c H' _ cells slots lsr X (w.set he (am_set_at h1 q2 q3 q4 hap h2 hj e1) e2 e3) (am_S.put S e2 e3) hl hc hn
theorem V.iald {G : am_G} {Y : am_Y} {R : Room} {Fn : Array Value → State → List Frame → State → Prop} {k n pc : Nat} {ls : List (Nat × Value)} {st : List Value} {h : List va_E} {a N : Nat} {f : Nat → Int32} {i v : Int32} (hd : decode Y.2.1 pc = .ok (.iaload, 1)) (he : h[a]? = some (.inl (0, N, .inl f))) (hi : vp_in i N) (hv : f i.toNatClampNeg = v) (kk : V G Y R Fn k n (pc + 1) ls (.int v :: st) h) : V G Y R Fn k n pc ls (.int i :: .ref a :: st) h := by
  intro p l e s m args below meth c H locs cells slots lsr X w S hl hc hn
  subst hv
  exact va_iald (D := gD G) (cl := am_cl) X.exec X.bytes X.K.1 w.P a 0 (cW_get he) rfl hi hd (kk p l e s m args below meth c H locs cells slots lsr X w S hl hc hn)
theorem V.zald {G : am_G} {Y : am_Y} {R : Room} {Fn : Array Value → State → List Frame → State → Prop} {k n pc : Nat} {ls : List (Nat × Value)} {st : List Value} {h : List va_E} {a N : Nat} {f : Nat → Int32} {i v : Int32} (hd : decode Y.2.1 pc = .ok (.baload, 1)) (he : h[a]? = some (.inl (1, N, .inl f))) (hi : vp_in i N) (hv : f i.toNatClampNeg = v) (kk : V G Y R Fn k n (pc + 1) ls (.int v :: st) h) : V G Y R Fn k n pc ls (.int i :: .ref a :: st) h := by
  intro p l e s m args below meth c H locs cells slots lsr X w S hl hc hn
  subst hv
  exact va_zald (D := gD G) (cl := am_cl) X.exec X.bytes X.K.1 w.P a 1 (cW_get he) rfl hi hd (kk p l e s m args below meth c H locs cells slots lsr X w S hl hc hn)
theorem V.alen {G : am_G} {Y : am_Y} {R : Room} {Fn : Array Value → State → List Frame → State → Prop} {k n pc : Nat} {ls : List (Nat × Value)} {st : List Value} {h : List va_E} {a q : Nat} {x : vp_A} {v : Int32} (hd : decode Y.2.1 pc = .ok (.arraylength, 1)) (he : h[a]? = some (.inl (q, x))) (hq : q < 2) (hv : Int32.ofNat x.1 = v) (kk : V G Y R Fn k n (pc + 1) ls (.int v :: st) h) : V G Y R Fn k n pc ls (.ref a :: st) h := by
  intro p l e s m args below meth c H locs cells slots lsr X w S hl hc hn
  rcases (show q = 0 ∨ q = 1 by omega) with rfl | rfl
  · exact va_alen (D := gD G) (cl := am_cl) X.exec X.bytes X.K.1 w.P a 0 (cW_get he) rfl hv hd (kk p l e s m args below meth c H locs cells slots lsr X w S hl hc hn)
  · exact va_alen (D := gD G) (cl := am_cl) X.exec X.bytes X.K.1 w.P a 1 (cW_get he) rfl hv hd (kk p l e s m args below meth c H locs cells slots lsr X w S hl hc hn)
theorem V.iast {G : am_G} {Y : am_Y} {R : Room} {Fn : Array Value → State → List Frame → State → Prop} {k n pc : Nat} {ls : List (Nat × Value)} {st : List Value} {h : List va_E} {a N : Nat} {f : Nat → Int32} {i x : Int32} {h' : List va_E} (hd : decode Y.2.1 pc = .ok (.iastore, 1)) (he : h[a]? = some (.inl (0, N, .inl f))) (hi : vp_in i N) (hh : h.set a (.inl (0, N, .inl (upd f i.toNatClampNeg x))) = h') (kk : V G Y R Fn k n (pc + 1) ls st h') : V G Y R Fn k n pc ls (.int x :: .int i :: .ref a :: st) h := by
  intro p l e s m args below meth c H locs cells slots lsr X w S hl hc hn
  subst hh
  have hK := X.K.1
  refine W.iast X.exec X.bytes (w.2.2 a _ he) ((hK.2 0 _ rfl).1 N (fun j => .int (f j))) (fun q => by cases q) (by show ¬ (i < 0 ∨ (arrV _ _ _).slots.size ≤ _); rw [arrV_size]; exact hi) rfl rfl hd fun H1 e1 e2 e3 => ?_
  refine kk p l e s m args below meth c H1 _ cells slots lsr X (w.set he ?_ e2 e3) (am_S.put S e2 e3) hl hc hn
  show H1[gB G + a]? = some (arrV (gT G 0) N (fun j => .int (upd f i.toNatClampNeg x j)))
  rw [e1]
  show some ((arrV (gT G 0) N (fun j => .int (f j))).setSlot _ _) = _
  rw [arrV_store]
  congr 2
  funext q
  by_cases hq : q = i.toNatClampNeg
  · subst hq
    simp [updV, upd]
  · simp [updV, upd, hq]
theorem V.zast {G : am_G} {Y : am_Y} {R : Room} {Fn : Array Value → State → List Frame → State → Prop} {k n pc : Nat} {ls : List (Nat × Value)} {st : List Value} {h : List va_E} {a N : Nat} {f : Nat → Int32} {i x : Int32} {h' : List va_E} (hd : decode Y.2.1 pc = .ok (.bastore, 1)) (he : h[a]? = some (.inl (1, N, .inl f))) (hi : vp_in i N) (hx : narrow .boolean (.int x) = .int x) (hh : h.set a (.inl (1, N, .inl (upd f i.toNatClampNeg x))) = h') (kk : V G Y R Fn k n (pc + 1) ls st h') : V G Y R Fn k n pc ls (.int x :: .int i :: .ref a :: st) h := by
  intro p l e s m args below meth c H locs cells slots lsr X w S hl hc hn
  subst hh
  have hK := X.K.1
  refine W.zast X.exec X.bytes (w.2.2 a _ he) ((hK.2 1 _ rfl).1 N (fun j => .int (f j))) (fun q => by cases q) (by show ¬ (i < 0 ∨ (arrV _ _ _).slots.size ≤ _); rw [arrV_size]; exact hi) rfl rfl hd fun H1 e1 e2 e3 => ?_
  refine kk p l e s m args below meth c H1 _ cells slots lsr X (w.set he ?_ e2 e3) (am_S.put S e2 e3) hl hc hn
  show H1[gB G + a]? = some (arrV (gT G 1) N (fun j => .int (upd f i.toNatClampNeg x j)))
  rw [e1, hx]
  show some ((arrV (gT G 1) N (fun j => .int (f j))).setSlot _ _) = _
  rw [arrV_store]
  congr 2
  funext q
  by_cases hq : q = i.toNatClampNeg
  · subst hq
    simp [updV, upd]
  · simp [updV, upd, hq]
theorem V.ildL {G : am_G} {Y : am_Y} {R : Room} {Fn : Array Value → State → List Frame → State → Prop} {k n pc : Nat} {ls : List (Nat × Value)} {st : List Value} {h : List va_E} {a : Nat} {i v : Int32} (hd : decode Y.2.1 pc = .ok (.iaload, 1)) (ha : a < am_low) (hi : vp_in i (gL G a).2.1) (hv : (gL G a).2.2 i.toNatClampNeg = v) (kk : V G Y R Fn k n (pc + 1) ls (.int v :: st) h) : V G Y R Fn k n pc ls (.int i :: .retAddr a :: st) h := by
  intro p l e s m args below meth c H locs cells slots lsr X w S hl hc hn
  have hT := X.K.2.1 a ha
  obtain ⟨cell, h1, h2, h3, h4, h5, h6, h7⟩ := hT
  have hlow : (gL G a).1 < gB G := Nat.not_le.mp h7
  have hT' : va_T .int (gL G a).1 (gL G a).2.1 (fun j => .int ((gL G a).2.2 j)) (gA G) s s.heap := ⟨cell, by rw [X.low _ hlow]; exact h1, h2, h3, h4, h5, h6, h7⟩
  exact va_ti X.exec X.bytes hT' S hi (by rw [hv]; rfl) hd (kk p l e s m args below meth c H locs cells slots lsr X w S hl hc hn)
theorem V.alenL {G : am_G} {Y : am_Y} {R : Room} {Fn : Array Value → State → List Frame → State → Prop} {k n pc : Nat} {ls : List (Nat × Value)} {st : List Value} {h : List va_E} {a : Nat} {v : Int32} (hd : decode Y.2.1 pc = .ok (.arraylength, 1)) (ha : a < am_low) (hv : Int32.ofNat (gL G a).2.1 = v) (kk : V G Y R Fn k n (pc + 1) ls (.int v :: st) h) : V G Y R Fn k n pc ls (.retAddr a :: st) h := by
  intro p l e s m args below meth c H locs cells slots lsr X w S hl hc hn
  have hT := X.K.2.1 a ha
  obtain ⟨cell, h1, h2, h3, h4, h5, h6, h7⟩ := hT
  have hlow : (gL G a).1 < gB G := Nat.not_le.mp h7
  have hT' : va_T .int (gL G a).1 (gL G a).2.1 (fun j => .int ((gL G a).2.2 j)) (gA G) s s.heap := ⟨cell, by rw [X.low _ hlow]; exact h1, h2, h3, h4, h5, h6, h7⟩
  exact va_tlen X.exec X.bytes hT' S hv hd (kk p l e s m args below meth c H locs cells slots lsr X w S hl hc hn)
theorem V.getsL {G : am_G} {Y : am_Y} {R : Room} {Fn : Array Value → State → List Frame → State → Prop} {k n pc : Nat} {ls : List (Nat × Value)} {st : List Value} {h : List va_E} {idx a : Nat} {C f d : String} (hd : decode Y.2.1 pc = .ok (.getstatic idx, 3)) (hz : (C, f, d, a) ∈ am_stat) (hk : Cond.fieldLink Y.1.cls idx C f d ∈ am_tbl) (kk : V G Y R Fn k n (pc + 3) ls (.retAddr a :: st) h) : V G Y R Fn k n pc ls st h := by
  intro p l e s m args below meth c H locs cells slots lsr X w S hl hc hn
  have hZ := X.K.2.2 _ hz
  obtain ⟨cf, kf, fi, ff, aa, cell, h1, h2, h3, h4, h5, h6, h7, h8⟩ := hZ
  have hlow : aa < gB G := Nat.not_le.mp h8
  have hZ' : va_Z C f d (.ref (gL G a).1) (gA G) s s.heap := ⟨cf, kf, fi, ff, aa, cell, h1, h2, h3, h4, by rw [X.low _ hlow]; exact h5, h6, h7, h8⟩
  exact va_gets X.exec X.bytes hZ' S X.own (X.hts _ hk) (fun _ z => z) hd (kk p l e s m args below meth c H locs cells slots lsr X w S hl hc hn)
theorem V.getsN {G : am_G} {Y : am_Y} {R : Room} {Fn : Array Value → State → List Frame → State → Prop} {k n pc : Nat} {ls : List (Nat × Value)} {st : List Value} {h : List va_E} {idx a : Nat} {C f d host : String} (hd : decode Y.2.1 pc = .ok (.getstatic idx, 3)) (hz : (C, f, d, a) ∈ am_stat) (hk : Cond.fieldLinkNest Y.1.cls idx C f d host ∈ am_tbl) (kk : V G Y R Fn k n (pc + 3) ls (.retAddr a :: st) h) : V G Y R Fn k n pc ls st h := by
  intro p l e s m args below meth c H locs cells slots lsr X w S hl hc hn
  have hZ := X.K.2.2 _ hz
  obtain ⟨cf, kf, fi, ff, aa, cell, h1, h2, h3, h4, h5, h6, h7, h8⟩ := hZ
  have hlow : aa < gB G := Nat.not_le.mp h8
  have hZ' : va_Z C f d (.ref (gL G a).1) (gA G) s s.heap := ⟨cf, kf, fi, ff, aa, cell, h1, h2, h3, h4, by rw [X.low _ hlow]; exact h5, h6, h7, h8⟩
  exact va_getsN X.exec X.bytes hZ' S X.own (X.hts _ hk) (fun _ z => z) hd (kk p l e s m args below meth c H locs cells slots lsr X w S hl hc hn)
end
section
theorem V.iret {G : am_G} {Y : am_Y} {d lo mc ms : Nat} {Post : Option Value → List va_E → Prop} {k n pc : Nat} {ls : List (Nat × Value)} {h : List va_E} {x : Int32} (hd : decode Y.2.1 pc = .ok (.ireturn, 1)) (hr : Y.2.2.2 = some .int) (hp : Post (some (.int x)) h) : V G Y (am_R d lo mc ms) (am_Fin G mc ms Post) k n pc ls [.int x] h := by
  intro p l e s m args below meth c H locs cells slots lsr X w S hl hc hn
  have hc' : cells + k ≤ mc := hc
  have hn' : slots + n ≤ ms := hn
  refine W.widen (k := mc) (n := ms) (by omega) (by omega) ?_
  exact W.iret X.exec X.bytes (X.returns.trans hr) (fun t ht hW => ⟨some (.int x), h, rfl, hp, by rw [ht]; exact w, X.K.moved hW.alike, by rw [ht]; exact S.1⟩) S.2.2 hd X.locks
theorem V.zret {G : am_G} {Y : am_Y} {d lo mc ms : Nat} {Post : Option Value → List va_E → Prop} {k n pc : Nat} {ls : List (Nat × Value)} {h : List va_E} {x : Int32} {ty : FieldType} (hd : decode Y.2.1 pc = .ok (.ireturn, 1)) (hr : Y.2.2.2 = some ty) (hx : narrow ty (.int x) = .int x) (hp : Post (some (.int x)) h) : V G Y (am_R d lo mc ms) (am_Fin G mc ms Post) k n pc ls [.int x] h := by
  intro p l e s m args below meth c H locs cells slots lsr X w S hl hc hn
  have hc' : cells + k ≤ mc := hc
  have hn' : slots + n ≤ ms := hn
  refine W.widen (k := mc) (n := ms) (by omega) (by omega) ?_
  exact W.zret X.exec X.bytes (X.returns.trans hr) hx (fun t ht hW => ⟨some (.int x), h, rfl, hp, by rw [ht]; exact w, X.K.moved hW.alike, by rw [ht]; exact S.1⟩) S.2.2 hd X.locks
theorem V.vret {G : am_G} {Y : am_Y} {d lo mc ms : Nat} {Post : Option Value → List va_E → Prop} {k n pc : Nat} {ls : List (Nat × Value)} {h : List va_E} (hd : decode Y.2.1 pc = .ok (.return_, 1)) (hr : Y.2.2.2 = none) (hp : Post none h) : V G Y (am_R d lo mc ms) (am_Fin G mc ms Post) k n pc ls [] h := by
  intro p l e s m args below meth c H locs cells slots lsr X w S hl hc hn
  have hc' : cells + k ≤ mc := hc
  have hn' : slots + n ≤ ms := hn
  refine W.widen (k := mc) (n := ms) (by omega) (by omega) ?_
  exact W.vret X.exec X.bytes (X.returns.trans hr) (fun t ht hW => ⟨none, h, rfl, hp, by rw [ht]; exact w, X.K.moved hW.alike, by rw [ht]; exact S.1⟩) S.2.2 hd X.locks
theorem V.aret {G : am_G} {Y : am_Y} {d lo mc ms : Nat} {Post : Option Value → List va_E → Prop} {k n pc : Nat} {ls : List (Nat × Value)} {h : List va_E} {a : Nat} {rt : FieldType} (hd : decode Y.2.1 pc = .ok (.areturn, 1)) (hr : Y.2.2.2 = some rt) (hrt : (∃ q, rt = .object q) ∨ ∃ t, rt = .array t) (hp : Post (some (.ref a)) h) : V G Y (am_R d lo mc ms) (am_Fin G mc ms Post) k n pc ls [.ref a] h := by
  intro p l e s m args below meth c H locs cells slots lsr X w S hl hc hn
  have hc' : cells + k ≤ mc := hc
  have hn' : slots + n ≤ ms := hn
  refine W.widen (k := mc) (n := ms) (by omega) (by omega) ?_
  exact W.aret X.exec X.bytes (X.returns.trans hr) hrt (Or.inr ⟨_, rfl⟩) (fun t ht hW => ⟨some (.ref a), h, rfl, hp, by rw [ht]; exact w, X.K.moved hW.alike, by rw [ht]; exact S.1⟩) S.2.2 hd X.locks
theorem am_as_args (G : am_G) : ∀ (as : List Value) (i : Nat), (∀ v ∈ as, v.category = 1) → lv_args i (as.map (cV G)) = cL G (am_as i as)
  | [], i, _ => rfl
  | v :: vs, i, hc => by
    have h1 : (cV G v).category = 1 := (cV_cat G v).trans (hc v List.mem_cons_self)
    have h2 := am_as_args G vs (i + 1) (fun u hu => hc u (List.mem_cons_of_mem _ hu))
    simp only [List.map_cons, lv_args, am_as, h1]
    simpa using h2
theorem am_sl_len (G : am_G) : ∀ (as : List Value), (∀ v ∈ as, v.category = 1) → (lg_sl (as.map (cV G))).length = as.length
  | [], _ => rfl
  | v :: vs, hc => by
    have h1 : (cV G v).category = 1 := (cV_cat G v).trans (hc v List.mem_cons_self)
    have h2 := am_sl_len G vs (fun u hu => hc u (List.mem_cons_of_mem _ hu))
    simp only [List.map_cons, lg_sl, List.flatMap_cons, List.length_append, h1] at h2 ⊢
    simp at h2 ⊢
    omega
/-- a contract, by its walk -/
theorem Ct.of {G : am_G} {Y : am_Y} {d lo mc ms : Nat} {as : List Value} {h : List va_E} {Post : Option Value → List va_E → Prop} (hy : plainName Y.1.cls = true) (hl : as.length ≤ Y.2.2.1) (hc : ∀ v ∈ as, v.category = 1) (hv : V G Y (am_R d lo mc ms) (am_Fin G mc ms Post) mc ms 0 (am_as 0 as) [] h) : Ct G Y d lo mc ms as h Post := by
  intro l
  refine Met.ofW (cc := Y.2.1) (maxL := Y.2.2.1) (ret := Y.2.2.2) hy rfl ?_
  intro p e s m args below meth c s₁ B hml hPc
  obtain ⟨rfl, hW, hK⟩ := hPc
  have hts := atoms_spec (ws := am_ws Y) B.pre
  have hown : s.vm.findClass Y.1.cls = some m.cls := findClass_of_methodNamed B.named
  have hnm : meth.name = Y.1.name := (name_of_methodNamed B.named B.method).1
  have hlen := am_sl_len G as hc
  have hl2 := lv_entry (as.map (cV G)) (n := Y.2.2.1) (by rw [hlen]; exact hl)
  rw [am_as_args G as 0 hc] at hl2
  rw [lg_entry_eq]
  generalize (lg_sl (as.map (cV G)) ++ List.replicate (Y.2.2.1 - (lg_sl (as.map (cV G))).length) Slot.unset).toArray = lsr at hl2 ⊢
  have hz := hW.1
  exact hv p l e s m _ below meth c s.heap [] 0 0 lsr ⟨B.exec, B.bytes, hml, B.returns, hown, B.notSynchronized, hnm, fun w hw => hts w (List.mem_cons_of_mem _ hw), hK, hW.2.1, by omega⟩ hW va_S.rf hl2 (by simp [am_R]) (by simp [am_R])
theorem am_good_in {Y : am_Y} (hY : Cond.code Y.1 Y.2.1 Y.2.2.1 Y.2.2.2 ∈ am_tbl) : GoodIn am_tbl (am_ws Y) := by
  intro w hw
  have h1 : w ∈ am_tbl := by
    rcases List.mem_cons.mp hw with rfl | h
    · exact hY
    · exact h
  exact ⟨h1, good_of_word (List.all_eq_true.mp am_good w h1)⟩
/-- behind a call -/
theorem am_call {p : Program} {l : Launch} {e : Env} {R : Room} {s : State} {m : MethodId} {args : Array Value} {below : List Frame} {meth : Method} {c : Code} {H : Heap} {locs : List Loc} {cells slots : Nat} {Q : State → Prop} {G : am_G} {Y : am_Y} {mc ms pc : Nat} {lsr : Array Slot} {st0 rest : List Value} {a : Array Value} {Post : Option Value → List va_E → Prop} (X : am_Fix G Y p s m args meth c) (S : va_S (gA G) s.heap H locs)
    (hr : va_Run p l e R s m args below meth c H locs cells slots mc ms (F0 m pc lsr st0) rest (am_Q G Post a) (gA G))
    (kk : ∀ (r : Option Value) (h' : List va_E) (H1 : Heap) (locs1 : List Loc), Post r h' → am_W G h' H1 → va_S (gA G) s.heap H1 locs1 → W p l e R s m args below meth c H1 locs1 (cells + mc) (slots + ms) Q (F0 m (pc + 3) lsr ((r.map (cV G)).toList ++ rest))) : W p l e R s m args below meth c H locs cells slots Q (F0 m pc lsr st0) := by
  intro T hT X0
  obtain ⟨v, st₀, t, T', L, h0, X', hL, e1, e2, ⟨r, h', hv, hp, hw, hk, hz⟩, stp⟩ := hr T hT X0
  cases hv
  rw [h0] at hz
  have hB := X.big
  obtain ⟨t2, a1, b1⟩ := kk r h' t.heap (locs ++ L) hp hw ⟨Nat.le_trans S.1 hz, fun q h1 h2 => by rw [hw.2.1 q (Nat.not_le.mp h2), X.low q (Nat.not_le.mp h2)], fun q hq => by
      rcases List.mem_append.mp hq with z | z
      · exact S.2.2 q z
      · exact hL q z⟩ T' e1 X'
  exact ⟨t2, stp t2 a1, b1⟩
theorem am_pre {s : State} {H : Heap} {G : am_G} {h : List va_E} {As : List Value} (hW : am_W G h H) (hK : am_K G s) : PreS s H (fun v U => v = (As.map (cV G)).toArray ∧ am_W G h U.heap ∧ am_K G U) (As.map (cV G)) :=
  ⟨fun a U g mk q => ⟨q.1, q.2.1, am_K.moved (u := U) (U := U.calling g mk a) (Vm.Alike.refl U.vm) q.2.2⟩, fun U hU hw => ⟨rfl, by rw [hU]; exact hW, hK.moved hw.alike⟩⟩
/-- a call site: what links it -/
def am_site (own : String) (idx : Nat) (Y : am_Y) (n : Nat) : Prop := Cond.methodLink own idx Y.1 ∈ am_tbl ∧ Cond.initialized Y.1.cls ∈ am_tbl ∧ Cond.code Y.1 Y.2.1 Y.2.2.1 Y.2.2.2 ∈ am_tbl ∧ Y.1.cls ≠ "java/lang/invoke/MethodHandle" ∧ Y.1.cls ≠ "java/lang/invoke/VarHandle" ∧ (parseMethodDescriptor Y.1.desc).map (fun d => d.parameters.length) = some n
def am_siteN (own : String) (idx : Nat) (Y : am_Y) (n : Nat) (host : String) : Prop := Cond.methodLinkNest own idx Y.1 host ∈ am_tbl ∧ Cond.initialized Y.1.cls ∈ am_tbl ∧ Cond.code Y.1 Y.2.1 Y.2.2.1 Y.2.2.2 ∈ am_tbl ∧ Y.1.cls ≠ "java/lang/invoke/MethodHandle" ∧ Y.1.cls ≠ "java/lang/invoke/VarHandle" ∧ (parseMethodDescriptor Y.1.desc).map (fun d => d.parameters.length) = some n
theorem am_site.B {own : String} {idx nn : Nat} {Y : am_Y} {R : Room} {s : State} {args : Array Value} {d lo mc ms : Nat} (h : am_site own idx Y nn) (hts : ∀ w ∈ am_tbl, w.before args s = true) (hR : d + 1 ≤ R.frames ∧ 8 + (Y.2.2.1 + 11) + lo ≤ R.locals) : CallB R s args own idx Y.1 Y.2.1 Y.2.2.1 Y.2.2.2 (am_ws Y) (am_R d lo mc ms) mc ms nn := callB_of nn hts (am_good_in h.2.2.1) rfl rfl rfl (hts _ h.2.1) (hts _ h.1) h.2.2.2 hR
theorem am_siteN.B {own host : String} {idx nn : Nat} {Y : am_Y} {R : Room} {s : State} {args : Array Value} {d lo mc ms : Nat} (h : am_siteN own idx Y nn host) (hts : ∀ w ∈ am_tbl, w.before args s = true) (hR : d + 1 ≤ R.frames ∧ 8 + (Y.2.2.1 + 11) + lo ≤ R.locals) : va_CN R s args own idx Y.1 host Y.2.1 Y.2.2.1 Y.2.2.2 (am_ws Y) (am_R d lo mc ms) mc ms nn := va_cnB nn hts (am_good_in h.2.2.1) rfl rfl rfl (va_Nw.of rfl (hts _ h.1)) (hts _ h.2.1) h.2.2.2 hR
theorem am_toList {G : am_G} (r : Option Value) : r.toList.map (cV G) = (r.map (cV G)).toList := by cases r <;> rfl
theorem V.callS {G : am_G} {Y : am_Y} {R : Room} {Fn : Array Value → State → List Frame → State → Prop} {k n pc : Nat} {ls : List (Nat × Value)} {st : List Value} {h : List va_E} {Y' : am_Y} {d' lo' mc' ms' idx : Nat} {As st0 : List Value} {Post' : Option Value → List va_E → Prop}  (hd : decode Y.2.1 pc = .ok (.invokestatic idx, 3)) (hsite : am_site Y.1.cls idx Y' As.length) (hstat : Cond.static Y'.1 ∈ am_tbl) (hC : Ct G Y' d' lo' mc' ms' As h Post') (hR : d' + 1 ≤ R.frames ∧ 8 + (Y'.2.2.1 + 11) + lo' ≤ R.locals) (hmc : mc' ≤ k) (hms : ms' ≤ n) (hst8 : (st.map fun v => v.category).sum ≤ 8) (hs0 : st0 = (As.reverse ++ st)) (kk : ∀ (r : Option Value) (h' : List va_E), Post' r h' → V G Y R Fn (k - mc') (n - ms') (pc + 3) ls (r.toList ++ st) h') : V G Y R Fn k n pc ls st0 h := by
  intro p l e s m args below meth c H locs cells slots lsr X w S hl hc hn
  subst hs0
  refine am_call X S (va_runS (As := As.map (cV G)) (rest := st.map (cV G)) ⟨X.exec, X.bytes, X.maxL, X.own, X.hts⟩ (hC l) ⟨hsite.B X.hts hR, X.hts _ hstat⟩ (am_pre w X.K) rfl (by simp) hl.1 (by simp [List.map_reverse]) (by show 2 * 0 + ((st.map (cV G)).map fun v => v.category).sum ≤ 8; rw [List.map_map]; simpa [Function.comp_def, cV_cat] using hst8) hd ⟨by omega, by omega⟩) (fun r h' H1 locs1 hp hw hs => ?_)
  have hq := kk r h' hp p l e s m args below meth c H1 locs1 (cells + mc') (slots + ms') lsr X hw hs hl (by omega) (by omega)
  simpa only [List.map_append, am_toList] using hq
theorem V.callSN {G : am_G} {Y : am_Y} {R : Room} {Fn : Array Value → State → List Frame → State → Prop} {k n pc : Nat} {ls : List (Nat × Value)} {st : List Value} {h : List va_E} {Y' : am_Y} {d' lo' mc' ms' idx : Nat} {As st0 : List Value} {Post' : Option Value → List va_E → Prop} {host : String} (hd : decode Y.2.1 pc = .ok (.invokestatic idx, 3)) (hsite : am_siteN Y.1.cls idx Y' As.length host) (hstat : Cond.static Y'.1 ∈ am_tbl) (hC : Ct G Y' d' lo' mc' ms' As h Post') (hR : d' + 1 ≤ R.frames ∧ 8 + (Y'.2.2.1 + 11) + lo' ≤ R.locals) (hmc : mc' ≤ k) (hms : ms' ≤ n) (hst8 : (st.map fun v => v.category).sum ≤ 8) (hs0 : st0 = (As.reverse ++ st)) (kk : ∀ (r : Option Value) (h' : List va_E), Post' r h' → V G Y R Fn (k - mc') (n - ms') (pc + 3) ls (r.toList ++ st) h') : V G Y R Fn k n pc ls st0 h := by
  intro p l e s m args below meth c H locs cells slots lsr X w S hl hc hn
  subst hs0
  refine am_call X S (va_runSN (As := As.map (cV G)) (rest := st.map (cV G)) ⟨X.exec, X.bytes, X.maxL, X.own, X.hts⟩ (hC l) ⟨hsite.B X.hts hR, X.hts _ hstat, trivial⟩ (am_pre w X.K) rfl (by simp) hl.1 (by simp [List.map_reverse]) (by show 2 * 0 + ((st.map (cV G)).map fun v => v.category).sum ≤ 8; rw [List.map_map]; simpa [Function.comp_def, cV_cat] using hst8) hd ⟨by omega, by omega⟩) (fun r h' H1 locs1 hp hw hs => ?_)
  have hq := kk r h' hp p l e s m args below meth c H1 locs1 (cells + mc') (slots + ms') lsr X hw hs hl (by omega) (by omega)
  simpa only [List.map_append, am_toList] using hq
theorem V.callV {G : am_G} {Y : am_Y} {R : Room} {Fn : Array Value → State → List Frame → State → Prop} {k n pc : Nat} {ls : List (Nat × Value)} {st : List Value} {h : List va_E} {Y' : am_Y} {d' lo' mc' ms' idx : Nat} {As st0 : List Value} {Post' : Option Value → List va_E → Prop} {a ci N : Nat} {T : u_T} {fs : List Value} (hd : decode Y.2.1 pc = .ok (.invokevirtual idx, 3)) (hsite : am_site Y.1.cls idx Y' As.length) (hinst : Cond.instanceMethod Y'.1 ∈ am_tbl) (hsel : Cond.selects Y'.1.cls Y'.1 Y'.1 ∈ am_tbl) (hcl : am_cl[ci]? = some (Y'.1.cls, T, N)) (he : h[a]? = some (.inr (ci, fs))) (hC : Ct G Y' d' lo' mc' ms' (.ref a :: As) h Post') (hR : d' + 1 ≤ R.frames ∧ 8 + (Y'.2.2.1 + 11) + lo' ≤ R.locals) (hmc : mc' ≤ k) (hms : ms' ≤ n) (hst8 : (st.map fun v => v.category).sum ≤ 8) (hs0 : st0 = (As.reverse ++ .ref a :: st)) (kk : ∀ (r : Option Value) (h' : List va_E), Post' r h' → V G Y R Fn (k - mc') (n - ms') (pc + 3) ls (r.toList ++ st) h') : V G Y R Fn k n pc ls st0 h := by
  intro p l e s m args below meth c H locs cells slots lsr X w S hl hc hn
  subst hs0
  refine am_call X S (va_runV (As := As.map (cV G)) (rest := st.map (cV G)) (b := gB G + a) ⟨X.exec, X.bytes, X.maxL, X.own, X.hts⟩ (hC l) ⟨hsite.B X.hts hR, X.hts _ hinst, X.hts _ hsel⟩ ⟨(am_pre (As := .ref a :: As) w X.K).1, va_recv (q := (Y'.1.cls, T, N)) X.K.1 w.P hcl (cW_get he), (am_pre (As := .ref a :: As) w X.K).2⟩ rfl (by simp) hl.1 (by simp [List.map_reverse]; rfl) (by show 2 * 0 + ((st.map (cV G)).map fun v => v.category).sum ≤ 8; rw [List.map_map]; simpa [Function.comp_def, cV_cat] using hst8) hd ⟨by omega, by omega⟩) (fun r h' H1 locs1 hp hw hs => ?_)
  have hq := kk r h' hp p l e s m args below meth c H1 locs1 (cells + mc') (slots + ms') lsr X hw hs hl (by omega) (by omega)
  simpa only [List.map_append, am_toList] using hq
theorem V.callVN {G : am_G} {Y : am_Y} {R : Room} {Fn : Array Value → State → List Frame → State → Prop} {k n pc : Nat} {ls : List (Nat × Value)} {st : List Value} {h : List va_E} {Y' : am_Y} {d' lo' mc' ms' idx : Nat} {As st0 : List Value} {Post' : Option Value → List va_E → Prop} {host : String} {a ci N : Nat} {T : u_T} {fs : List Value} (hd : decode Y.2.1 pc = .ok (.invokevirtual idx, 3)) (hsite : am_siteN Y.1.cls idx Y' As.length host) (hinst : Cond.instanceMethod Y'.1 ∈ am_tbl) (hsel : Cond.selects Y'.1.cls Y'.1 Y'.1 ∈ am_tbl) (hcl : am_cl[ci]? = some (Y'.1.cls, T, N)) (he : h[a]? = some (.inr (ci, fs))) (hC : Ct G Y' d' lo' mc' ms' (.ref a :: As) h Post') (hR : d' + 1 ≤ R.frames ∧ 8 + (Y'.2.2.1 + 11) + lo' ≤ R.locals) (hmc : mc' ≤ k) (hms : ms' ≤ n) (hst8 : (st.map fun v => v.category).sum ≤ 8) (hs0 : st0 = (As.reverse ++ .ref a :: st)) (kk : ∀ (r : Option Value) (h' : List va_E), Post' r h' → V G Y R Fn (k - mc') (n - ms') (pc + 3) ls (r.toList ++ st) h') : V G Y R Fn k n pc ls st0 h := by
  intro p l e s m args below meth c H locs cells slots lsr X w S hl hc hn
  subst hs0
  refine am_call X S (va_runVN (As := As.map (cV G)) (rest := st.map (cV G)) (b := gB G + a) ⟨X.exec, X.bytes, X.maxL, X.own, X.hts⟩ (hC l) ⟨hsite.B X.hts hR, X.hts _ hinst, X.hts _ hsel⟩ ⟨(am_pre (As := .ref a :: As) w X.K).1, va_recv (q := (Y'.1.cls, T, N)) X.K.1 w.P hcl (cW_get he), (am_pre (As := .ref a :: As) w X.K).2⟩ rfl (by simp) hl.1 (by simp [List.map_reverse]; rfl) (by show 2 * 0 + ((st.map (cV G)).map fun v => v.category).sum ≤ 8; rw [List.map_map]; simpa [Function.comp_def, cV_cat] using hst8) hd ⟨by omega, by omega⟩) (fun r h' H1 locs1 hp hw hs => ?_)
  have hq := kk r h' hp p l e s m args below meth c H1 locs1 (cells + mc') (slots + ms') lsr X hw hs hl (by omega) (by omega)
  simpa only [List.map_append, am_toList] using hq
theorem V.callI {G : am_G} {Y : am_Y} {R : Room} {Fn : Array Value → State → List Frame → State → Prop} {k n pc : Nat} {ls : List (Nat × Value)} {st : List Value} {h : List va_E} {Y' : am_Y} {d' lo' mc' ms' idx : Nat} {As st0 : List Value} {Post' : Option Value → List va_E → Prop} {a : Nat} (hd : decode Y.2.1 pc = .ok (.invokespecial idx, 3)) (hsite : am_site Y.1.cls idx Y' As.length) (hret : Y'.2.2.2 = none) (hin : Y'.1.name = "<init>") (hinst : Cond.instanceMethod Y'.1 ∈ am_tbl) (hC : Ct G Y' d' lo' mc' ms' (.ref a :: As) h Post') (hR : d' + 1 ≤ R.frames ∧ 8 + (Y'.2.2.1 + 11) + lo' ≤ R.locals) (hmc : mc' ≤ k) (hms : ms' ≤ n) (hst8 : (st.map fun v => v.category).sum ≤ 8) (hs0 : st0 = (As.reverse ++ .ref a :: st)) (kk : ∀ (r : Option Value) (h' : List va_E), Post' r h' → V G Y R Fn (k - mc') (n - ms') (pc + 3) ls (r.toList ++ st) h') : V G Y R Fn k n pc ls st0 h := by
  intro p l e s m args below meth c H locs cells slots lsr X w S hl hc hn
  subst hs0
  refine am_call X S (va_runI (As := As.map (cV G)) (rest := st.map (cV G)) (b := gB G + a) ⟨X.exec, X.bytes, X.maxL, X.own, X.hts⟩ (hC l) ⟨hret ▸ hsite.B X.hts hR, hin, X.hts _ hinst⟩ (am_pre (As := .ref a :: As) w X.K) rfl (by simp) hl.1 (by simp [List.map_reverse]; rfl) (by show 2 * 0 + ((st.map (cV G)).map fun v => v.category).sum ≤ 8; rw [List.map_map]; simpa [Function.comp_def, cV_cat] using hst8) hd ⟨by omega, by omega⟩) (fun r h' H1 locs1 hp hw hs => ?_)
  have hq := kk r h' hp p l e s m args below meth c H1 locs1 (cells + mc') (slots + ms') lsr X hw hs hl (by omega) (by omega)
  simpa only [List.map_append, am_toList] using hq
theorem V.callIN {G : am_G} {Y : am_Y} {R : Room} {Fn : Array Value → State → List Frame → State → Prop} {k n pc : Nat} {ls : List (Nat × Value)} {st : List Value} {h : List va_E} {Y' : am_Y} {d' lo' mc' ms' idx : Nat} {As st0 : List Value} {Post' : Option Value → List va_E → Prop} {host : String} {a : Nat} (hd : decode Y.2.1 pc = .ok (.invokespecial idx, 3)) (hsite : am_siteN Y.1.cls idx Y' As.length host) (hret : Y'.2.2.2 = none) (hin : Y'.1.name = "<init>") (hinst : Cond.instanceMethod Y'.1 ∈ am_tbl) (hC : Ct G Y' d' lo' mc' ms' (.ref a :: As) h Post') (hR : d' + 1 ≤ R.frames ∧ 8 + (Y'.2.2.1 + 11) + lo' ≤ R.locals) (hmc : mc' ≤ k) (hms : ms' ≤ n) (hst8 : (st.map fun v => v.category).sum ≤ 8) (hs0 : st0 = (As.reverse ++ .ref a :: st)) (kk : ∀ (r : Option Value) (h' : List va_E), Post' r h' → V G Y R Fn (k - mc') (n - ms') (pc + 3) ls (r.toList ++ st) h') : V G Y R Fn k n pc ls st0 h := by
  intro p l e s m args below meth c H locs cells slots lsr X w S hl hc hn
  subst hs0
  refine am_call X S (va_runIN (As := As.map (cV G)) (rest := st.map (cV G)) (b := gB G + a) ⟨X.exec, X.bytes, X.maxL, X.own, X.hts⟩ (hC l) ⟨hret ▸ hsite.B X.hts hR, hin, X.hts _ hinst⟩ (am_pre (As := .ref a :: As) w X.K) rfl (by simp) hl.1 (by simp [List.map_reverse]; rfl) (by show 2 * 0 + ((st.map (cV G)).map fun v => v.category).sum ≤ 8; rw [List.map_map]; simpa [Function.comp_def, cV_cat] using hst8) hd ⟨by omega, by omega⟩) (fun r h' H1 locs1 hp hw hs => ?_)
  have hq := kk r h' hp p l e s m args below meth c H1 locs1 (cells + mc') (slots + ms') lsr X hw hs hl (by omega) (by omega)
  simpa only [List.map_append, am_toList] using hq
theorem V.objInit {G : am_G} {Y : am_Y} {R : Room} {Fn : Array Value → State → List Frame → State → Prop} {k n pc : Nat} {ls : List (Nat × Value)} {st : List Value} {h : List va_E} {idx a : Nat} (hd : decode Y.2.1 pc = .ok (.invokespecial idx, 3)) (hlk : Cond.methodLink Y.1.cls idx Lib.objectInit ∈ am_tbl) (hin : Cond.instanceMethod Lib.objectInit ∈ am_tbl) (hco : Cond.code Lib.objectInit ⟨#[0xb1]⟩ 1 none ∈ am_tbl) (hR : 1 ≤ R.frames) (hR2 : (st.map fun v => v.category).sum + 12 ≤ R.locals) (kk : V G Y R Fn k n (pc + 3) ls st h) : V G Y R Fn k n pc ls (.ref a :: st) h := by
  intro p l e s m args below meth c H locs cells slots lsr X w S hl hc hn
  refine W.objInit X.exec X.bytes X.own (X.hts _ hlk) (X.hts _ hin) (X.hts _ hco) rfl (hl.1.trans X.maxL.symm) rfl hd hR ?_ ?_
  · show 2 * 0 + ((st.map (cV G)).map fun v => v.category).sum + 12 ≤ R.locals
    rw [List.map_map]
    simpa [Function.comp_def, cV_cat] using hR2
  · exact kk p l e s m args below meth c H locs cells slots lsr X w S hl hc hn
/-- a class that may be made -/
def am_nw (own : String) (idx ci : Nat) (fs : List Value) : Prop := ∃ (C : String) (T : u_T) (N : Nat) (t0 : Nat → FieldType), am_cl[ci]? = some (C, T, N) ∧ fs.length = N ∧ Cond.classLink own idx C ∈ am_tbl ∧ Cond.instantiable C N ∈ am_tbl ∧ Cond.initialized C ∈ am_tbl ∧ (∀ w ∈ u_ws C T N, w ∈ am_tbl) ∧ (∀ k, k < N → parseFieldDescriptor (T k).2.2.1 = some (t0 k)) ∧ (∀ k, k < N → fs[k]? = some (defaultValue (t0 k))) ∧ (∀ v ∈ fs, v = .null ∨ ∃ x, v = .int x)
theorem V.new {G : am_G} {Y : am_Y} {R : Room} {Fn : Array Value → State → List Frame → State → Prop} {k n pc : Nat} {ls : List (Nat × Value)} {st : List Value} {h : List va_E} {idx ci : Nat} {fs : List Value} {h' : List va_E} {k' n' : Nat} (hd : decode Y.2.1 pc = .ok (.new idx, 3)) (hw : am_nw Y.1.cls idx ci fs) (hk : k' + 1 = k) (hn' : n' + fs.length = n) (hh : h ++ [.inr (ci, fs)] = h') (kk : V G Y R Fn k' n' (pc + 3) ls (.ref h.length :: st) h') : V G Y R Fn k n pc ls st h := by
  intro p l e s m args below meth c H locs cells slots lsr X w S hl hc hn
  subst hh
  obtain ⟨C, T, N, t0, h1, h2, h3, h4, h5, h6, h7, h8, h9⟩ := hw
  have hK := X.K.1
  have hKn := hK.1 ci _ h1
  have hz := w.1
  have hmap : fs.map (cV G) = fs := by
    conv => rhs; rw [← List.map_id fs]
    refine List.map_congr_left fun v hv => ?_
    rcases h9 v hv with rfl | ⟨x, rfl⟩ <;> rfl
  refine W.newcK (h := gB G + h.length) X.exec X.bytes X.own (X.hts _ h3) (X.hts _ h4) (X.hts _ h5) rfl hd (by omega) (by omega) hKn.2.1 hz fun H1 kC hkC e1 z1 o1 => ?_
  refine kk p l e s m args below meth c H1 locs (cells + 1) (slots + N) lsr X (w.push ?_ (by omega) (fun q hq => o1 q (by omega))) ⟨by have := S.1; omega, fun q q1 q2 => by rw [o1 q (by have : q < gB G := Nat.not_le.mp q2; omega)]; exact S.2.1 q q1 q2, S.2.2⟩ hl (by omega) (by omega)
  refine ⟨_, h1, (u_born t0 X.hts h6 hKn hkC e1 h7).to (fun j hj => ?_)⟩
  rw [hmap]
  simp [vp_V, List.getD, h8 j hj]
theorem V.newa {G : am_G} {Y : am_Y} {R : Room} {Fn : Array Value → State → List Frame → State → Prop} {k n pc : Nat} {ls : List (Nat × Value)} {st : List Value} {h : List va_E} {atype : ArrayType} {q N : Nat} {i : Int32} {h' : List va_E} {k' n' : Nat} (hd : decode Y.2.1 pc = .ok (.newarray atype, 2)) (ht : (q = 0 ∧ atype = .int) ∨ (q = 1 ∧ atype = .boolean)) (hw : Cond.arrayClass (newarray.typeOf atype) ∈ am_tbl) (hi : ¬ i < 0) (hN : i.toNatClampNeg = N) (hN2 : N ≤ 1000000) (hk : k' + 1 = k) (hn' : n' + N = n) (hh : h ++ [.inl (q, N, .inl (fun _ => 0))] = h') (kk : V G Y R Fn k' n' (pc + 2) ls (.ref h.length :: st) h') : V G Y R Fn k n pc ls (.int i :: st) h := by
  intro p l e s m args below meth c H locs cells slots lsr X w S hl hc hn
  subst hh
  have hK := X.K.1
  have hz := w.1
  rcases ht with ⟨rfl, rfl⟩ | ⟨rfl, rfl⟩
  · refine va_newaK (h := gB G + h.length) X.exec X.bytes (X.hts _ hw) rfl hd rfl hi hN (by show N * 4 ≤ _; omega) (by omega) (by omega) hz fun H1 cA e1 z1 o1 hAr hNm => ?_
    have hcA : cA = gT G 0 := Option.some.inj (hNm.symm.trans ((hK.2 0 _ rfl).2))
    subst hcA
    exact kk p l e s m args below meth c H1 locs (cells + 1) (slots + N) lsr X (w.push e1 (by omega) (fun q hq => o1 q (by omega))) ⟨by have := S.1; omega, fun q q1 q2 => by rw [o1 q (by have : q < gB G := Nat.not_le.mp q2; omega)]; exact S.2.1 q q1 q2, S.2.2⟩ hl (by omega) (by omega)
  · refine va_newaK (h := gB G + h.length) X.exec X.bytes (X.hts _ hw) rfl hd rfl hi hN (by show N * 1 ≤ _; omega) (by omega) (by omega) hz fun H1 cA e1 z1 o1 hAr hNm => ?_
    have hcA : cA = gT G 1 := Option.some.inj (hNm.symm.trans ((hK.2 1 _ rfl).2))
    subst hcA
    exact kk p l e s m args below meth c H1 locs (cells + 1) (slots + N) lsr X (w.push e1 (by omega) (fun q hq => o1 q (by omega))) ⟨by have := S.1; omega, fun q q1 q2 => by rw [o1 q (by have : q < gB G := Nat.not_le.mp q2; omega)]; exact S.2.1 q q1 q2, S.2.2⟩ hl (by omega) (by omega)
theorem V.ialdN {G : am_G} {Y : am_Y} {R : Room} {Fn : Array Value → State → List Frame → State → Prop} {k n pc : Nat} {ls : List (Nat × Value)} {st : List Value} {h : List va_E} {a N j : Nat} {f : Nat → Int32} {v : Int32} (hd : decode Y.2.1 pc = .ok (.iaload, 1)) (he : h[a]? = some (.inl (0, N, .inl f))) (hj : j < N) (hN : N < 2 ^ 31) (hv : f j = v) (kk : V G Y R Fn k n (pc + 1) ls (.int v :: st) h) : V G Y R Fn k n pc ls (.int (nI j) :: .ref a :: st) h := V.iald hd he (vp_in_nI hj hN) (by rw [nI_clamp (by omega)]; exact hv) kk
theorem V.zaldN {G : am_G} {Y : am_Y} {R : Room} {Fn : Array Value → State → List Frame → State → Prop} {k n pc : Nat} {ls : List (Nat × Value)} {st : List Value} {h : List va_E} {a N j : Nat} {f : Nat → Int32} {v : Int32} (hd : decode Y.2.1 pc = .ok (.baload, 1)) (he : h[a]? = some (.inl (1, N, .inl f))) (hj : j < N) (hN : N < 2 ^ 31) (hv : f j = v) (kk : V G Y R Fn k n (pc + 1) ls (.int v :: st) h) : V G Y R Fn k n pc ls (.int (nI j) :: .ref a :: st) h := V.zald hd he (vp_in_nI hj hN) (by rw [nI_clamp (by omega)]; exact hv) kk
theorem V.iastN {G : am_G} {Y : am_Y} {R : Room} {Fn : Array Value → State → List Frame → State → Prop} {k n pc : Nat} {ls : List (Nat × Value)} {st : List Value} {h : List va_E} {a N j : Nat} {f : Nat → Int32} {x : Int32} {h' : List va_E} (hd : decode Y.2.1 pc = .ok (.iastore, 1)) (he : h[a]? = some (.inl (0, N, .inl f))) (hj : j < N) (hN : N < 2 ^ 31) (hh : h.set a (.inl (0, N, .inl (upd f j x))) = h') (kk : V G Y R Fn k n (pc + 1) ls st h') : V G Y R Fn k n pc ls (.int x :: .int (nI j) :: .ref a :: st) h := V.iast hd he (vp_in_nI hj hN) (by rw [nI_clamp (by omega)]; exact hh) kk
theorem V.zastN {G : am_G} {Y : am_Y} {R : Room} {Fn : Array Value → State → List Frame → State → Prop} {k n pc : Nat} {ls : List (Nat × Value)} {st : List Value} {h : List va_E} {a N j : Nat} {f : Nat → Int32} {x : Int32} {h' : List va_E} (hd : decode Y.2.1 pc = .ok (.bastore, 1)) (he : h[a]? = some (.inl (1, N, .inl f))) (hj : j < N) (hN : N < 2 ^ 31) (hx : narrow .boolean (.int x) = .int x) (hh : h.set a (.inl (1, N, .inl (upd f j x))) = h') (kk : V G Y R Fn k n (pc + 1) ls st h') : V G Y R Fn k n pc ls (.int x :: .int (nI j) :: .ref a :: st) h := V.zast hd he (vp_in_nI hj hN) hx (by rw [nI_clamp (by omega)]; exact hh) kk
theorem V.iincN {G : am_G} {Y : am_Y} {R : Room} {Fn : Array Value → State → List Frame → State → Prop} {k n pc : Nat} {ls : List (Nat × Value)} {st : List Value} {h : List va_E} {i j x : Nat} {ls' : List (Nat × Value)} (hd : decode Y.2.1 pc = .ok (.iinc i 1, 3)) (hj : ls[j]? = some (i, .int (nI x))) (hi : i < Y.2.2.1) (hls : am_st i (.int (nI (x + 1))) ls = ls') (kk : V G Y R Fn k n (pc + 3) ls' st h) : V G Y R Fn k n pc ls st h := V.iinc hd hj (nI_1 x) hi hls kk
theorem V.ideclN {G : am_G} {Y : am_Y} {R : Room} {Fn : Array Value → State → List Frame → State → Prop} {k n pc : Nat} {ls : List (Nat × Value)} {st : List Value} {h : List va_E} {i j x : Nat} {ls' : List (Nat × Value)} (hd : decode Y.2.1 pc = .ok (.iinc i (-1), 3)) (hj : ls[j]? = some (i, .int (nI (x + 1)))) (hi : i < Y.2.2.1) (hls : am_st i (.int (nI x)) ls = ls') (kk : V G Y R Fn k n (pc + 3) ls' st h) : V G Y R Fn k n pc ls st h := V.iinc hd hj (pk_m1 x) hi hls kk
theorem V.iaddN {G : am_G} {Y : am_Y} {R : Room} {Fn : Array Value → State → List Frame → State → Prop} {k n pc : Nat} {ls : List (Nat × Value)} {st : List Value} {h : List va_E} {x y : Nat} (hd : decode Y.2.1 pc = .ok (.iadd, 1)) (kk : V G Y R Fn k n (pc + 1) ls (.int (nI (x + y)) :: st) h) : V G Y R Fn k n pc ls (.int (nI y) :: .int (nI x) :: st) h := V.iadd hd (by rw [nI_add]; exact kk)
theorem V.isubN {G : am_G} {Y : am_Y} {R : Room} {Fn : Array Value → State → List Frame → State → Prop} {k n pc : Nat} {ls : List (Nat × Value)} {st : List Value} {h : List va_E} {x y : Nat} (hd : decode Y.2.1 pc = .ok (.isub, 1)) (hle : y ≤ x) (kk : V G Y R Fn k n (pc + 1) ls (.int (nI (x - y)) :: st) h) : V G Y R Fn k n pc ls (.int (nI y) :: .int (nI x) :: st) h := V.isub hd (by rw [pk_sub hle]; exact kk)
theorem V.imulN {G : am_G} {Y : am_Y} {R : Room} {Fn : Array Value → State → List Frame → State → Prop} {k n pc : Nat} {ls : List (Nat × Value)} {st : List Value} {h : List va_E} {x y : Nat} (hd : decode Y.2.1 pc = .ok (.imul, 1)) (kk : V G Y R Fn k n (pc + 1) ls (.int (nI (x * y)) :: st) h) : V G Y R Fn k n pc ls (.int (nI y) :: .int (nI x) :: st) h := V.imul hd (by rw [pk_mul]; exact kk)
theorem V.icmp_ltN {G : am_G} {Y : am_Y} {R : Room} {Fn : Array Value → State → List Frame → State → Prop} {k n pc : Nat} {ls : List (Nat × Value)} {st : List Value} {h : List va_E} {x y : Nat} {off : Int} {tgt : Nat} (hd : decode Y.2.1 pc = .ok (.if_icmp .lt off, 3)) (ht : (pc : Int) + off = (tgt : Int)) (hx : x < 2 ^ 31) (hy : y < 2 ^ 31) (kt : x < y → V G Y R Fn k n tgt ls st h) (kf : ¬ x < y → V G Y R Fn k n (pc + 3) ls st h) : V G Y R Fn k n pc ls (.int (nI y) :: .int (nI x) :: st) h := V.icmp_lt hd ht (fun z => kt ((nI_ltI hx hy).mp z)) (fun z => kf (fun q => z ((nI_ltI hx hy).mpr q)))
theorem V.icmp_geN {G : am_G} {Y : am_Y} {R : Room} {Fn : Array Value → State → List Frame → State → Prop} {k n pc : Nat} {ls : List (Nat × Value)} {st : List Value} {h : List va_E} {x y : Nat} {off : Int} {tgt : Nat} (hd : decode Y.2.1 pc = .ok (.if_icmp .ge off, 3)) (ht : (pc : Int) + off = (tgt : Int)) (hx : x < 2 ^ 31) (hy : y < 2 ^ 31) (kt : y ≤ x → V G Y R Fn k n tgt ls st h) (kf : ¬ y ≤ x → V G Y R Fn k n (pc + 3) ls st h) : V G Y R Fn k n pc ls (.int (nI y) :: .int (nI x) :: st) h := V.icmp_ge hd ht (fun z => kt ((nI_leI hy hx).mp z)) (fun z => kf (fun q => z ((nI_leI hy hx).mpr q)))
theorem V.icmp_gtN {G : am_G} {Y : am_Y} {R : Room} {Fn : Array Value → State → List Frame → State → Prop} {k n pc : Nat} {ls : List (Nat × Value)} {st : List Value} {h : List va_E} {x y : Nat} {off : Int} {tgt : Nat} (hd : decode Y.2.1 pc = .ok (.if_icmp .gt off, 3)) (ht : (pc : Int) + off = (tgt : Int)) (hx : x < 2 ^ 31) (hy : y < 2 ^ 31) (kt : y < x → V G Y R Fn k n tgt ls st h) (kf : ¬ y < x → V G Y R Fn k n (pc + 3) ls st h) : V G Y R Fn k n pc ls (.int (nI y) :: .int (nI x) :: st) h := V.icmp_gt hd ht (fun z => kt ((nI_ltI hy hx).mp z)) (fun z => kf (fun q => z ((nI_ltI hy hx).mpr q)))
theorem V.icmp_leN {G : am_G} {Y : am_Y} {R : Room} {Fn : Array Value → State → List Frame → State → Prop} {k n pc : Nat} {ls : List (Nat × Value)} {st : List Value} {h : List va_E} {x y : Nat} {off : Int} {tgt : Nat} (hd : decode Y.2.1 pc = .ok (.if_icmp .le off, 3)) (ht : (pc : Int) + off = (tgt : Int)) (hx : x < 2 ^ 31) (hy : y < 2 ^ 31) (kt : x ≤ y → V G Y R Fn k n tgt ls st h) (kf : ¬ x ≤ y → V G Y R Fn k n (pc + 3) ls st h) : V G Y R Fn k n pc ls (.int (nI y) :: .int (nI x) :: st) h := V.icmp_le hd ht (fun z => kt ((nI_leI hx hy).mp z)) (fun z => kf (fun q => z ((nI_leI hx hy).mpr q)))
theorem V.icmp_eqN {G : am_G} {Y : am_Y} {R : Room} {Fn : Array Value → State → List Frame → State → Prop} {k n pc : Nat} {ls : List (Nat × Value)} {st : List Value} {h : List va_E} {x y : Nat} {off : Int} {tgt : Nat} (hd : decode Y.2.1 pc = .ok (.if_icmp .eq off, 3)) (ht : (pc : Int) + off = (tgt : Int)) (hx : x < 2 ^ 31) (hy : y < 2 ^ 31) (kt : x = y → V G Y R Fn k n tgt ls st h) (kf : ¬ x = y → V G Y R Fn k n (pc + 3) ls st h) : V G Y R Fn k n pc ls (.int (nI y) :: .int (nI x) :: st) h := V.icmp_eq hd ht (fun z => kt ((nI_eq hx hy).mp z)) (fun z => kf (fun q => z ((nI_eq hx hy).mpr q)))
theorem V.icmp_neN {G : am_G} {Y : am_Y} {R : Room} {Fn : Array Value → State → List Frame → State → Prop} {k n pc : Nat} {ls : List (Nat × Value)} {st : List Value} {h : List va_E} {x y : Nat} {off : Int} {tgt : Nat} (hd : decode Y.2.1 pc = .ok (.if_icmp .ne off, 3)) (ht : (pc : Int) + off = (tgt : Int)) (hx : x < 2 ^ 31) (hy : y < 2 ^ 31) (kt : ¬ x = y → V G Y R Fn k n tgt ls st h) (kf : x = y → V G Y R Fn k n (pc + 3) ls st h) : V G Y R Fn k n pc ls (.int (nI y) :: .int (nI x) :: st) h := V.icmp_ne hd ht (fun z => kt (fun q => z ((nI_eq hx hy).mpr q))) (fun z => kf ((nI_eq hx hy).mp z))
theorem nI_z0 {x : Nat} (hx : x < 2 ^ 31) : nI x = 0 ↔ x = 0 := by rw [← nI_0]; exact nI_eq hx (by omega)
theorem nI_lt0 {x : Nat} (hx : x < 2 ^ 31) : ¬ nI x < 0 := nI_pos hx
theorem nI_0le {x : Nat} (hx : x < 2 ^ 31) : (0 : Int32) ≤ nI x := nI_pos' hx
theorem nI_0lt {x : Nat} (hx : x < 2 ^ 31) : (0 : Int32) < nI x ↔ 0 < x := by rw [← nI_0]; exact nI_ltI (by omega) hx
theorem nI_le0 {x : Nat} (hx : x < 2 ^ 31) : nI x ≤ 0 ↔ x = 0 := by rw [← nI_0, nI_leI hx (by omega)]; omega
theorem V.if_eqN {G : am_G} {Y : am_Y} {R : Room} {Fn : Array Value → State → List Frame → State → Prop} {k n pc : Nat} {ls : List (Nat × Value)} {st : List Value} {h : List va_E} {x : Nat} {off : Int} {tgt : Nat} (hd : decode Y.2.1 pc = .ok (.ifCond .eq off, 3)) (ht : (pc : Int) + off = (tgt : Int)) (hx : x < 2 ^ 31) (kt : x = 0 → V G Y R Fn k n tgt ls st h) (kf : ¬ x = 0 → V G Y R Fn k n (pc + 3) ls st h) : V G Y R Fn k n pc ls (.int (nI x) :: st) h := V.if_eq hd ht (fun z => kt ((nI_z0 hx).mp z)) (fun z => kf (fun q => z ((nI_z0 hx).mpr q)))
theorem V.if_gtN {G : am_G} {Y : am_Y} {R : Room} {Fn : Array Value → State → List Frame → State → Prop} {k n pc : Nat} {ls : List (Nat × Value)} {st : List Value} {h : List va_E} {x : Nat} {off : Int} {tgt : Nat} (hd : decode Y.2.1 pc = .ok (.ifCond .gt off, 3)) (ht : (pc : Int) + off = (tgt : Int)) (hx : x < 2 ^ 31) (kt : 0 < x → V G Y R Fn k n tgt ls st h) (kf : ¬ 0 < x → V G Y R Fn k n (pc + 3) ls st h) : V G Y R Fn k n pc ls (.int (nI x) :: st) h := V.if_gt hd ht (fun z => kt ((nI_0lt hx).mp z)) (fun z => kf (fun q => z ((nI_0lt hx).mpr q)))
theorem V.if_leN {G : am_G} {Y : am_Y} {R : Room} {Fn : Array Value → State → List Frame → State → Prop} {k n pc : Nat} {ls : List (Nat × Value)} {st : List Value} {h : List va_E} {x : Nat} {off : Int} {tgt : Nat} (hd : decode Y.2.1 pc = .ok (.ifCond .le off, 3)) (ht : (pc : Int) + off = (tgt : Int)) (hx : x < 2 ^ 31) (kt : x = 0 → V G Y R Fn k n tgt ls st h) (kf : ¬ x = 0 → V G Y R Fn k n (pc + 3) ls st h) : V G Y R Fn k n pc ls (.int (nI x) :: st) h := V.if_le hd ht (fun z => kt ((nI_le0 hx).mp z)) (fun z => kf (fun q => z ((nI_le0 hx).mpr q)))
theorem V.if_neN {G : am_G} {Y : am_Y} {R : Room} {Fn : Array Value → State → List Frame → State → Prop} {k n pc : Nat} {ls : List (Nat × Value)} {st : List Value} {h : List va_E} {x : Nat} {off : Int} {tgt : Nat} (hd : decode Y.2.1 pc = .ok (.ifCond .ne off, 3)) (ht : (pc : Int) + off = (tgt : Int)) (hx : x < 2 ^ 31) (kt : ¬ x = 0 → V G Y R Fn k n tgt ls st h) (kf : x = 0 → V G Y R Fn k n (pc + 3) ls st h) : V G Y R Fn k n pc ls (.int (nI x) :: st) h := V.if_ne hd ht (fun z => kt (fun q => z ((nI_z0 hx).mpr q))) (fun z => kf ((nI_z0 hx).mp z))
theorem V.if_ltN {G : am_G} {Y : am_Y} {R : Room} {Fn : Array Value → State → List Frame → State → Prop} {k n pc : Nat} {ls : List (Nat × Value)} {st : List Value} {h : List va_E} {x : Nat} {off : Int} {tgt : Nat} (hd : decode Y.2.1 pc = .ok (.ifCond .lt off, 3)) (ht : (pc : Int) + off = (tgt : Int)) (hx : x < 2 ^ 31) (kf : V G Y R Fn k n (pc + 3) ls st h) : V G Y R Fn k n pc ls (.int (nI x) :: st) h := V.if_lt hd ht (fun z => absurd z (nI_lt0 hx)) (fun _ => kf)
theorem V.if_geN {G : am_G} {Y : am_Y} {R : Room} {Fn : Array Value → State → List Frame → State → Prop} {k n pc : Nat} {ls : List (Nat × Value)} {st : List Value} {h : List va_E} {x : Nat} {off : Int} {tgt : Nat} (hd : decode Y.2.1 pc = .ok (.ifCond .ge off, 3)) (ht : (pc : Int) + off = (tgt : Int)) (hx : x < 2 ^ 31) (kt : V G Y R Fn k n tgt ls st h) : V G Y R Fn k n pc ls (.int (nI x) :: st) h := V.if_ge hd ht (fun _ => kt) (fun z => absurd (nI_0le hx) z)
end
section
abbrev MX0_init : am_Y := (yX0_init, cX0_init, 1, none)
set_option maxRecDepth 40000 in
theorem cwX0_init : Cond.code MX0_init.1 MX0_init.2.1 MX0_init.2.2.1 MX0_init.2.2.2 ∈ am_tbl := am_in 209 rfl rfl
abbrev MX0_translate : am_Y := (yX0_translate, cX0_translate, 5, none)
set_option maxRecDepth 40000 in
theorem cwX0_translate : Cond.code MX0_translate.1 MX0_translate.2.1 MX0_translate.2.2.1 MX0_translate.2.2.2 ∈ am_tbl := am_in 459 rfl rfl
abbrev MX0_isNeedless : am_Y := (yX0_isNeedless, cX0_isNeedless, 5, some FieldType.boolean)
set_option maxRecDepth 40000 in
theorem cwX0_isNeedless : Cond.code MX0_isNeedless.1 MX0_isNeedless.2.1 MX0_isNeedless.2.2.1 MX0_isNeedless.2.2.2 ∈ am_tbl := am_in 462 rfl rfl
abbrev MX0_translateStep : am_Y := (yX0_translateStep, cX0_translateStep, 10, none)
set_option maxRecDepth 40000 in
theorem cwX0_translateStep : Cond.code MX0_translateStep.1 MX0_translateStep.2.1 MX0_translateStep.2.2.1 MX0_translateStep.2.2.2 ∈ am_tbl := am_in 465 rfl rfl
abbrev MX0_bring : am_Y := (yX0_bring, cX0_bring, 6, some FieldType.int)
set_option maxRecDepth 40000 in
theorem cwX0_bring : Cond.code MX0_bring.1 MX0_bring.2.1 MX0_bring.2.2.1 MX0_bring.2.2.2 ∈ am_tbl := am_in 468 rfl rfl
abbrev MX0_firstHolds8 : am_Y := (yX0_firstHolds8, cX0_firstHolds8, 4, some FieldType.boolean)
set_option maxRecDepth 40000 in
theorem cwX0_firstHolds8 : Cond.code MX0_firstHolds8.1 MX0_firstHolds8.2.1 MX0_firstHolds8.2.2.1 MX0_firstHolds8.2.2.2 ∈ am_tbl := am_in 476 rfl rfl
abbrev MX0_registerOf : am_Y := (yX0_registerOf, cX0_registerOf, 5, some FieldType.int)
set_option maxRecDepth 40000 in
theorem cwX0_registerOf : Cond.code MX0_registerOf.1 MX0_registerOf.2.1 MX0_registerOf.2.2.1 MX0_registerOf.2.2.2 ∈ am_tbl := am_in 471 rfl rfl
abbrev MX0_addMaker : am_Y := (yX0_addMaker, cX0_addMaker, 7, none)
set_option maxRecDepth 40000 in
theorem cwX0_addMaker : Cond.code MX0_addMaker.1 MX0_addMaker.2.1 MX0_addMaker.2.2.1 MX0_addMaker.2.2.2 ∈ am_tbl := am_in 482 rfl rfl
abbrev MX0_addUser : am_Y := (yX0_addUser, cX0_addUser, 6, none)
set_option maxRecDepth 40000 in
theorem cwX0_addUser : Cond.code MX0_addUser.1 MX0_addUser.2.1 MX0_addUser.2.2.1 MX0_addUser.2.2.2 ∈ am_tbl := am_in 479 rfl rfl
abbrev MX1_init : am_Y := (yX1_init, cX1_init, 1, none)
set_option maxRecDepth 40000 in
theorem cwX1_init : Cond.code MX1_init.1 MX1_init.2.1 MX1_init.2.2.1 MX1_init.2.2.2 ∈ am_tbl := am_in 167 rfl rfl
abbrev MX1_spread : am_Y := (yX1_spread, cX1_spread, 7, none)
set_option maxRecDepth 40000 in
theorem cwX1_spread : Cond.code MX1_spread.1 MX1_spread.2.1 MX1_spread.2.2.1 MX1_spread.2.2.2 ∈ am_tbl := am_in 377 rfl rfl
abbrev MX1_liveBefore : am_Y := (yX1_liveBefore, cX1_liveBefore, 4, some FieldType.int)
set_option maxRecDepth 40000 in
theorem cwX1_liveBefore : Cond.code MX1_liveBefore.1 MX1_liveBefore.2.1 MX1_liveBefore.2.2.1 MX1_liveBefore.2.2.2 ∈ am_tbl := am_in 381 rfl rfl
abbrev MX1_behind : am_Y := (yX1_behind, cX1_behind, 4, some FieldType.int)
set_option maxRecDepth 40000 in
theorem cwX1_behind : Cond.code MX1_behind.1 MX1_behind.2.1 MX1_behind.2.2.1 MX1_behind.2.2.2 ∈ am_tbl := am_in 385 rfl rfl
abbrev MX1_beforeIfThere : am_Y := (yX1_beforeIfThere, cX1_beforeIfThere, 3, some FieldType.int)
set_option maxRecDepth 40000 in
theorem cwX1_beforeIfThere : Cond.code MX1_beforeIfThere.1 MX1_beforeIfThere.2.1 MX1_beforeIfThere.2.2.1 MX1_beforeIfThere.2.2.2 ∈ am_tbl := am_in 393 rfl rfl
abbrev MX1_collide : am_Y := (yX1_collide, cX1_collide, 4, none)
set_option maxRecDepth 40000 in
theorem cwX1_collide : Cond.code MX1_collide.1 MX1_collide.2.1 MX1_collide.2.2.1 MX1_collide.2.2.2 ∈ am_tbl := am_in 405 rfl rfl
abbrev MX1_blockedIn : am_Y := (yX1_blockedIn, cX1_blockedIn, 5, some FieldType.int)
set_option maxRecDepth 40000 in
theorem cwX1_blockedIn : Cond.code MX1_blockedIn.1 MX1_blockedIn.2.1 MX1_blockedIn.2.2.1 MX1_blockedIn.2.2.2 ∈ am_tbl := am_in 409 rfl rfl
abbrev MX1_blockAll : am_Y := (yX1_blockAll, cX1_blockAll, 4, none)
set_option maxRecDepth 40000 in
theorem cwX1_blockAll : Cond.code MX1_blockAll.1 MX1_blockAll.2.1 MX1_blockAll.2.2.1 MX1_blockAll.2.2.2 ∈ am_tbl := am_in 414 rfl rfl
abbrev MX2_init : am_Y := (yX2_init, cX2_init, 1, none)
set_option maxRecDepth 40000 in
theorem cwX2_init : Cond.code MX2_init.1 MX2_init.2.1 MX2_init.2.2.1 MX2_init.2.2.2 ∈ am_tbl := am_in 182 rfl rfl
abbrev MX2_settle : am_Y := (yX2_settle, cX2_settle, 5, none)
set_option maxRecDepth 40000 in
theorem cwX2_settle : Cond.code MX2_settle.1 MX2_settle.2.1 MX2_settle.2.2.1 MX2_settle.2.2.2 ∈ am_tbl := am_in 419 rfl rfl
abbrev MX2_forget : am_Y := (yX2_forget, cX2_forget, 3, none)
set_option maxRecDepth 40000 in
theorem cwX2_forget : Cond.code MX2_forget.1 MX2_forget.2.1 MX2_forget.2.2.1 MX2_forget.2.2.2 ∈ am_tbl := am_in 423 rfl rfl
abbrev MX2_weigh : am_Y := (yX2_weigh, cX2_weigh, 5, none)
set_option maxRecDepth 40000 in
theorem cwX2_weigh : Cond.code MX2_weigh.1 MX2_weigh.2.1 MX2_weigh.2.2.1 MX2_weigh.2.2.2 ∈ am_tbl := am_in 427 rfl rfl
abbrev MX2_join : am_Y := (yX2_join, cX2_join, 5, none)
set_option maxRecDepth 40000 in
theorem cwX2_join : Cond.code MX2_join.1 MX2_join.2.1 MX2_join.2.2.1 MX2_join.2.2.2 ∈ am_tbl := am_in 434 rfl rfl
abbrev MX2_line : am_Y := (yX2_line, cX2_line, 4, none)
set_option maxRecDepth 40000 in
theorem cwX2_line : Cond.code MX2_line.1 MX2_line.2.1 MX2_line.2.2.1 MX2_line.2.2.2 ∈ am_tbl := am_in 439 rfl rfl
abbrev MX2_placeFor : am_Y := (yX2_placeFor, cX2_placeFor, 6, some FieldType.int)
set_option maxRecDepth 40000 in
theorem cwX2_placeFor : Cond.code MX2_placeFor.1 MX2_placeFor.2.1 MX2_placeFor.2.2.1 MX2_placeFor.2.2.2 ∈ am_tbl := am_in 443 rfl rfl
abbrev MX2_placesOf : am_Y := (yX2_placesOf, cX2_placesOf, 5, some FieldType.int)
set_option maxRecDepth 40000 in
theorem cwX2_placesOf : Cond.code MX2_placesOf.1 MX2_placesOf.2.1 MX2_placesOf.2.2.1 MX2_placesOf.2.2.2 ∈ am_tbl := am_in 447 rfl rfl
abbrev MX2_inSlot : am_Y := (yX2_inSlot, cX2_inSlot, 2, some FieldType.boolean)
set_option maxRecDepth 40000 in
theorem cwX2_inSlot : Cond.code MX2_inSlot.1 MX2_inSlot.2.1 MX2_inSlot.2.2.1 MX2_inSlot.2.2.2 ∈ am_tbl := am_in 451 rfl rfl
abbrev MX2_slotsOf : am_Y := (yX2_slotsOf, cX2_slotsOf, 3, some FieldType.int)
set_option maxRecDepth 40000 in
theorem cwX2_slotsOf : Cond.code MX2_slotsOf.1 MX2_slotsOf.2.1 MX2_slotsOf.2.2.1 MX2_slotsOf.2.2.2 ∈ am_tbl := am_in 549 rfl rfl
abbrev MX2_clash : am_Y := (yX2_clash, cX2_clash, 5, some FieldType.boolean)
set_option maxRecDepth 40000 in
theorem cwX2_clash : Cond.code MX2_clash.1 MX2_clash.2.1 MX2_clash.2.2.1 MX2_clash.2.2.2 ∈ am_tbl := am_in 628 rfl rfl
abbrev MX3_init : am_Y := (yX3_init, cX3_init, 2, none)
set_option maxRecDepth 40000 in
theorem cwX3_init : Cond.code MX3_init.1 MX3_init.2.1 MX3_init.2.2.1 MX3_init.2.2.2 ∈ am_tbl := am_in 80 rfl rfl
abbrev MX3_add : am_Y := (yX3_add, cX3_add, 5, none)
set_option maxRecDepth 40000 in
theorem cwX3_add : Cond.code MX3_add.1 MX3_add.2.1 MX3_add.2.2.1 MX3_add.2.2.2 ∈ am_tbl := am_in 342 rfl rfl
abbrev MX3_part : am_Y := (yX3_part, cX3_part, 3, some FieldType.int)
set_option maxRecDepth 40000 in
theorem cwX3_part : Cond.code MX3_part.1 MX3_part.2.1 MX3_part.2.2.1 MX3_part.2.2.2 ∈ am_tbl := am_in 352 rfl rfl
abbrev MX3_target : am_Y := (yX3_target, cX3_target, 2, some FieldType.int)
set_option maxRecDepth 40000 in
theorem cwX3_target : Cond.code MX3_target.1 MX3_target.2.1 MX3_target.2.2.1 MX3_target.2.2.2 ∈ am_tbl := am_in 389 rfl rfl
abbrev MX3_aim : am_Y := (yX3_aim, cX3_aim, 3, none)
set_option maxRecDepth 40000 in
theorem cwX3_aim : Cond.code MX3_aim.1 MX3_aim.2.1 MX3_aim.2.2.1 MX3_aim.2.2.2 ∈ am_tbl := am_in 487 rfl rfl
abbrev MX3_goesOn : am_Y := (yX3_goesOn, cX3_goesOn, 2, some FieldType.boolean)
set_option maxRecDepth 40000 in
theorem cwX3_goesOn : Cond.code MX3_goesOn.1 MX3_goesOn.2.1 MX3_goesOn.2.2.1 MX3_goesOn.2.2.2 ∈ am_tbl := am_in 397 rfl rfl
abbrev MX3_copy : am_Y := (yX3_copy, cX3_copy, 3, none)
set_option maxRecDepth 40000 in
theorem cwX3_copy : Cond.code MX3_copy.1 MX3_copy.2.1 MX3_copy.2.2.1 MX3_copy.2.2.2 ∈ am_tbl := am_in 491 rfl rfl
abbrev MX3_takeAway : am_Y := (yX3_takeAway, cX3_takeAway, 3, none)
set_option maxRecDepth 40000 in
theorem cwX3_takeAway : Cond.code MX3_takeAway.1 MX3_takeAway.2.1 MX3_takeAway.2.2.1 MX3_takeAway.2.2.2 ∈ am_tbl := am_in 519 rfl rfl
abbrev MX4_init : am_Y := (yX4_init, cX4_init, 1, none)
set_option maxRecDepth 40000 in
theorem cwX4_init : Cond.code MX4_init.1 MX4_init.2.1 MX4_init.2.2.1 MX4_init.2.2.2 ∈ am_tbl := am_in 232 rfl rfl
abbrev MX4_endsWithin : am_Y := (yX4_endsWithin, cX4_endsWithin, 5, some FieldType.boolean)
set_option maxRecDepth 40000 in
theorem cwX4_endsWithin : Cond.code MX4_endsWithin.1 MX4_endsWithin.2.1 MX4_endsWithin.2.2.1 MX4_endsWithin.2.2.2 ∈ am_tbl := am_in 575 rfl rfl
abbrev MX4_begin : am_Y := (yX4_begin, cX4_begin, 3, none)
set_option maxRecDepth 40000 in
theorem cwX4_begin : Cond.code MX4_begin.1 MX4_begin.2.1 MX4_begin.2.2.1 MX4_begin.2.2.2 ∈ am_tbl := am_in 579 rfl rfl
abbrev MX4_lineBehind : am_Y := (yX4_lineBehind, cX4_lineBehind, 4, some FieldType.int)
set_option maxRecDepth 40000 in
theorem cwX4_lineBehind : Cond.code MX4_lineBehind.1 MX4_lineBehind.2.1 MX4_lineBehind.2.2.1 MX4_lineBehind.2.2.2 ∈ am_tbl := am_in 583 rfl rfl
abbrev MX4_act : am_Y := (yX4_act, cX4_act, 5, none)
set_option maxRecDepth 40000 in
theorem cwX4_act : Cond.code MX4_act.1 MX4_act.2.1 MX4_act.2.2.1 MX4_act.2.2.2 ∈ am_tbl := am_in 587 rfl rfl
abbrev MX4_cellAt : am_Y := (yX4_cellAt, cX4_cellAt, 3, some FieldType.int)
set_option maxRecDepth 40000 in
theorem cwX4_cellAt : Cond.code MX4_cellAt.1 MX4_cellAt.2.1 MX4_cellAt.2.2.1 MX4_cellAt.2.2.2 ∈ am_tbl := am_in 591 rfl rfl
abbrev MX4_slotAt : am_Y := (yX4_slotAt, cX4_slotAt, 2, some FieldType.int)
set_option maxRecDepth 40000 in
theorem cwX4_slotAt : Cond.code MX4_slotAt.1 MX4_slotAt.2.1 MX4_slotAt.2.2.1 MX4_slotAt.2.2.2 ∈ am_tbl := am_in 601 rfl rfl
abbrev MX4_speak : am_Y := (yX4_speak, cX4_speak, 2, none)
set_option maxRecDepth 40000 in
theorem cwX4_speak : Cond.code MX4_speak.1 MX4_speak.2.1 MX4_speak.2.2.1 MX4_speak.2.2.2 ∈ am_tbl := am_in 598 rfl rfl
abbrev MX4_wordsKept : am_Y := (yX4_wordsKept, cX4_wordsKept, 1, some FieldType.int)
set_option maxRecDepth 40000 in
theorem cwX4_wordsKept : Cond.code MX4_wordsKept.1 MX4_wordsKept.2.1 MX4_wordsKept.2.2.1 MX4_wordsKept.2.2.2 ∈ am_tbl := am_in 613 rfl rfl
abbrev MX4_agreesWith : am_Y := (yX4_agreesWith, cX4_agreesWith, 3, some FieldType.boolean)
set_option maxRecDepth 40000 in
theorem cwX4_agreesWith : Cond.code MX4_agreesWith.1 MX4_agreesWith.2.1 MX4_agreesWith.2.2.1 MX4_agreesWith.2.2.2 ∈ am_tbl := am_in 632 rfl rfl
abbrev MX5_init : am_Y := (yX5_init, cX5_init, 1, none)
set_option maxRecDepth 40000 in
theorem cwX5_init : Cond.code MX5_init.1 MX5_init.2.1 MX5_init.2.2.1 MX5_init.2.2.2 ∈ am_tbl := am_in 74 rfl rfl
abbrev MX5_addValue : am_Y := (yX5_addValue, cX5_addValue, 2, some FieldType.int)
set_option maxRecDepth 40000 in
theorem cwX5_addValue : Cond.code MX5_addValue.1 MX5_addValue.2.1 MX5_addValue.2.2.1 MX5_addValue.2.2.2 ∈ am_tbl := am_in 304 rfl rfl
abbrev MX5_isValue : am_Y := (yX5_isValue, cX5_isValue, 2, some FieldType.boolean)
set_option maxRecDepth 40000 in
theorem cwX5_isValue : Cond.code MX5_isValue.1 MX5_isValue.2.1 MX5_isValue.2.2.1 MX5_isValue.2.2.2 ∈ am_tbl := am_in 328 rfl rfl
abbrev MX5_allows : am_Y := (yX5_allows, cX5_allows, 5, some FieldType.boolean)
set_option maxRecDepth 40000 in
theorem cwX5_allows : Cond.code MX5_allows.1 MX5_allows.2.1 MX5_allows.2.2.1 MX5_allows.2.2.2 ∈ am_tbl := am_in 315 rfl rfl
abbrev MX5_namesValues : am_Y := (yX5_namesValues, cX5_namesValues, 5, some FieldType.boolean)
set_option maxRecDepth 40000 in
theorem cwX5_namesValues : Cond.code MX5_namesValues.1 MX5_namesValues.2.1 MX5_namesValues.2.2.1 MX5_namesValues.2.2.2 ∈ am_tbl := am_in 321 rfl rfl
abbrev MX5_mayComeNext : am_Y := (yX5_mayComeNext, cX5_mayComeNext, 1, some FieldType.boolean)
set_option maxRecDepth 40000 in
theorem cwX5_mayComeNext : Cond.code MX5_mayComeNext.1 MX5_mayComeNext.2.1 MX5_mayComeNext.2.2.1 MX5_mayComeNext.2.2.2 ∈ am_tbl := am_in 334 rfl rfl
abbrev MX5_addStep : am_Y := (yX5_addStep, cX5_addStep, 6, some FieldType.int)
set_option maxRecDepth 40000 in
theorem cwX5_addStep : Cond.code MX5_addStep.1 MX5_addStep.2.1 MX5_addStep.2.2.1 MX5_addStep.2.2.2 ∈ am_tbl := am_in 338 rfl rfl
abbrev MX5_takenOf : am_Y := (yX5_takenOf, cX5_takenOf, 6, some FieldType.int)
set_option maxRecDepth 40000 in
theorem cwX5_takenOf : Cond.code MX5_takenOf.1 MX5_takenOf.2.1 MX5_takenOf.2.2.1 MX5_takenOf.2.2.2 ∈ am_tbl := am_in 346 rfl rfl
abbrev MX6_init : am_Y := (yX6_init, cX6_init, 1, none)
set_option maxRecDepth 40000 in
theorem cwX6_init : Cond.code MX6_init.1 MX6_init.2.1 MX6_init.2.2.1 MX6_init.2.2.2 ∈ am_tbl := am_in 219 rfl rfl
abbrev MX6_tidy : am_Y := (yX6_tidy, cX6_tidy, 4, none)
set_option maxRecDepth 40000 in
theorem cwX6_tidy : Cond.code MX6_tidy.1 MX6_tidy.2.1 MX6_tidy.2.2.1 MX6_tidy.2.2.2 ∈ am_tbl := am_in 496 rfl rfl
abbrev MX6_firstNeedless : am_Y := (yX6_firstNeedless, cX6_firstNeedless, 3, some FieldType.int)
set_option maxRecDepth 40000 in
theorem cwX6_firstNeedless : Cond.code MX6_firstNeedless.1 MX6_firstNeedless.2.1 MX6_firstNeedless.2.2.1 MX6_firstNeedless.2.2.2 ∈ am_tbl := am_in 500 rfl rfl
abbrev MX6_markLed : am_Y := (yX6_markLed, cX6_markLed, 3, none)
set_option maxRecDepth 40000 in
theorem cwX6_markLed : Cond.code MX6_markLed.1 MX6_markLed.2.1 MX6_markLed.2.2.1 MX6_markLed.2.2.2 ∈ am_tbl := am_in 504 rfl rfl
abbrev MX6_leadsToNext : am_Y := (yX6_leadsToNext, cX6_leadsToNext, 2, some FieldType.boolean)
set_option maxRecDepth 40000 in
theorem cwX6_leadsToNext : Cond.code MX6_leadsToNext.1 MX6_leadsToNext.2.1 MX6_leadsToNext.2.2.1 MX6_leadsToNext.2.2.2 ∈ am_tbl := am_in 508 rfl rfl
abbrev MX6_isIdleBehind : am_Y := (yX6_isIdleBehind, cX6_isIdleBehind, 2, some FieldType.boolean)
set_option maxRecDepth 40000 in
theorem cwX6_isIdleBehind : Cond.code MX6_isIdleBehind.1 MX6_isIdleBehind.2.1 MX6_isIdleBehind.2.2.1 MX6_isIdleBehind.2.2.2 ∈ am_tbl := am_in 511 rfl rfl
abbrev MX6_fetchesWhatWasKept : am_Y := (yX6_fetchesWhatWasKept, cX6_fetchesWhatWasKept, 2, some FieldType.boolean)
set_option maxRecDepth 40000 in
theorem cwX6_fetchesWhatWasKept : Cond.code MX6_fetchesWhatWasKept.1 MX6_fetchesWhatWasKept.2.1 MX6_fetchesWhatWasKept.2.2.1 MX6_fetchesWhatWasKept.2.2.2 ∈ am_tbl := am_in 515 rfl rfl
abbrev MX7_init : am_Y := (yX7_init, cX7_init, 1, none)
set_option maxRecDepth 40000 in
theorem cwX7_init : Cond.code MX7_init.1 MX7_init.2.1 MX7_init.2.2.1 MX7_init.2.2.2 ∈ am_tbl := am_in 66 rfl rfl
abbrev MX7_value : am_Y := (yX7_value, cX7_value, 2, some FieldType.int)
set_option maxRecDepth 40000 in
theorem cwX7_value : Cond.code MX7_value.1 MX7_value.2.1 MX7_value.2.2.1 MX7_value.2.2.2 ∈ am_tbl := am_in 297 rfl rfl
abbrev MX7_put : am_Y := (yX7_put, cX7_put, 5, some FieldType.int)
set_option maxRecDepth 40000 in
theorem cwX7_put : Cond.code MX7_put.1 MX7_put.2.1 MX7_put.2.2.1 MX7_put.2.2.2 ∈ am_tbl := am_in 311 rfl rfl
abbrev MX7_clear : am_Y := (yX7_clear, cX7_clear, 2, some FieldType.int)
set_option maxRecDepth 40000 in
theorem cwX7_clear : Cond.code MX7_clear.1 MX7_clear.2.1 MX7_clear.2.2.1 MX7_clear.2.2.2 ∈ am_tbl := am_in 356 rfl rfl
abbrev MX7_registers : am_Y := (yX7_registers, cX7_registers, 3, some FieldType.int)
set_option maxRecDepth 40000 in
theorem cwX7_registers : Cond.code MX7_registers.1 MX7_registers.2.1 MX7_registers.2.2.1 MX7_registers.2.2.2 ∈ am_tbl := am_in 360 rfl rfl
abbrev MX7_memory : am_Y := (yX7_memory, cX7_memory, 3, some FieldType.int)
set_option maxRecDepth 40000 in
theorem cwX7_memory : Cond.code MX7_memory.1 MX7_memory.2.1 MX7_memory.2.2.1 MX7_memory.2.2.2 ∈ am_tbl := am_in 364 rfl rfl
abbrev MX7_live : am_Y := (yX7_live, cX7_live, 2, some FieldType.int)
set_option maxRecDepth 40000 in
theorem cwX7_live : Cond.code MX7_live.1 MX7_live.2.1 MX7_live.2.2.1 MX7_live.2.2.2 ∈ am_tbl := am_in 369 rfl rfl
abbrev MX7_inWay : am_Y := (yX7_inWay, cX7_inWay, 2, some FieldType.int)
set_option maxRecDepth 40000 in
theorem cwX7_inWay : Cond.code MX7_inWay.1 MX7_inWay.2.1 MX7_inWay.2.2.1 MX7_inWay.2.2.2 ∈ am_tbl := am_in 528 rfl rfl
abbrev MX7_weight : am_Y := (yX7_weight, cX7_weight, 2, some FieldType.int)
set_option maxRecDepth 40000 in
theorem cwX7_weight : Cond.code MX7_weight.1 MX7_weight.2.1 MX7_weight.2.2.1 MX7_weight.2.2.2 ∈ am_tbl := am_in 533 rfl rfl
abbrev MX7_home : am_Y := (yX7_home, cX7_home, 2, some FieldType.int)
set_option maxRecDepth 40000 in
theorem cwX7_home : Cond.code MX7_home.1 MX7_home.2.1 MX7_home.2.2.1 MX7_home.2.2.2 ∈ am_tbl := am_in 537 rfl rfl
abbrev MX7_order : am_Y := (yX7_order, cX7_order, 2, some FieldType.int)
set_option maxRecDepth 40000 in
theorem cwX7_order : Cond.code MX7_order.1 MX7_order.2.1 MX7_order.2.2.1 MX7_order.2.2.2 ∈ am_tbl := am_in 541 rfl rfl
abbrev MX7_count : am_Y := (yX7_count, cX7_count, 2, some FieldType.int)
set_option maxRecDepth 40000 in
theorem cwX7_count : Cond.code MX7_count.1 MX7_count.2.1 MX7_count.2.2.1 MX7_count.2.2.2 ∈ am_tbl := am_in 545 rfl rfl
abbrev MX7_item : am_Y := (yX7_item, cX7_item, 5, some FieldType.int)
set_option maxRecDepth 40000 in
theorem cwX7_item : Cond.code MX7_item.1 MX7_item.2.1 MX7_item.2.2.1 MX7_item.2.2.2 ∈ am_tbl := am_in 559 rfl rfl
abbrev MX7_run : am_Y := (yX7_run, cX7_run, 3, some FieldType.int)
set_option maxRecDepth 40000 in
theorem cwX7_run : Cond.code MX7_run.1 MX7_run.2.1 MX7_run.2.2.1 MX7_run.2.2.2 ∈ am_tbl := am_in 571 rfl rfl
abbrev MX7_made : am_Y := (yX7_made, cX7_made, 2, some FieldType.int)
set_option maxRecDepth 40000 in
theorem cwX7_made : Cond.code MX7_made.1 MX7_made.2.1 MX7_made.2.2.1 MX7_made.2.2.2 ∈ am_tbl := am_in 605 rfl rfl
abbrev MX7_said : am_Y := (yX7_said, cX7_said, 2, some FieldType.int)
set_option maxRecDepth 40000 in
theorem cwX7_said : Cond.code MX7_said.1 MX7_said.2.1 MX7_said.2.2.1 MX7_said.2.2.2 ∈ am_tbl := am_in 609 rfl rfl
abbrev MX7_cell : am_Y := (yX7_cell, cX7_cell, 2, some FieldType.int)
set_option maxRecDepth 40000 in
theorem cwX7_cell : Cond.code MX7_cell.1 MX7_cell.2.1 MX7_cell.2.2.1 MX7_cell.2.2.2 ∈ am_tbl := am_in 620 rfl rfl
abbrev MX7_check : am_Y := (yX7_check, cX7_check, 1, some FieldType.int)
set_option maxRecDepth 40000 in
theorem cwX7_check : Cond.code MX7_check.1 MX7_check.2.1 MX7_check.2.2.1 MX7_check.2.2.2 ∈ am_tbl := am_in 624 rfl rfl
abbrev MX7_isClass : am_Y := (yX7_isClass, cX7_isClass, 1, some FieldType.boolean)
set_option maxRecDepth 40000 in
theorem cwX7_isClass : Cond.code MX7_isClass.1 MX7_isClass.2.1 MX7_isClass.2.2.1 MX7_isClass.2.2.2 ∈ am_tbl := am_in 300 rfl rfl
abbrev MX7_isCell : am_Y := (yX7_isCell, cX7_isCell, 1, some FieldType.boolean)
set_option maxRecDepth 40000 in
theorem cwX7_isCell : Cond.code MX7_isCell.1 MX7_isCell.2.1 MX7_isCell.2.2.1 MX7_isCell.2.2.2 ∈ am_tbl := am_in 331 rfl rfl
abbrev MX7_stageOf : am_Y := (yX7_stageOf, cX7_stageOf, 1, some FieldType.int)
set_option maxRecDepth 40000 in
theorem cwX7_stageOf : Cond.code MX7_stageOf.1 MX7_stageOf.2.1 MX7_stageOf.2.2.1 MX7_stageOf.2.2.2 ∈ am_tbl := am_in 562 rfl rfl
abbrev MX7_listingOf : am_Y := (yX7_listingOf, cX7_listingOf, 2, some (FieldType.object "RegisterHouse$Listing"))
set_option maxRecDepth 40000 in
theorem cwX7_listingOf : Cond.code MX7_listingOf.1 MX7_listingOf.2.1 MX7_listingOf.2.2.1 MX7_listingOf.2.2.2 ∈ am_tbl := am_in 566 rfl rfl
abbrev MX7_workOut : am_Y := (yX7_workOut, cX7_workOut, 2, none)
set_option maxRecDepth 40000 in
theorem cwX7_workOut : Cond.code MX7_workOut.1 MX7_workOut.2.1 MX7_workOut.2.2.1 MX7_workOut.2.2.2 ∈ am_tbl := am_in 373 rfl rfl
abbrev MX7_bit : am_Y := (yX7_bit, cX7_bit, 1, some FieldType.int)
set_option maxRecDepth 40000 in
theorem cwX7_bit : Cond.code MX7_bit.1 MX7_bit.2.1 MX7_bit.2.2.1 MX7_bit.2.2.2 ∈ am_tbl := am_in 307 rfl rfl
abbrev MX7_bitIfThere : am_Y := (yX7_bitIfThere, cX7_bitIfThere, 1, some FieldType.int)
set_option maxRecDepth 40000 in
theorem cwX7_bitIfThere : Cond.code MX7_bitIfThere.1 MX7_bitIfThere.2.1 MX7_bitIfThere.2.2.1 MX7_bitIfThere.2.2.2 ∈ am_tbl := am_in 400 rfl rfl
abbrev MX7_has : am_Y := (yX7_has, cX7_has, 2, some FieldType.boolean)
set_option maxRecDepth 40000 in
theorem cwX7_has : Cond.code MX7_has.1 MX7_has.2.1 MX7_has.2.2.1 MX7_has.2.2.2 ∈ am_tbl := am_in 324 rfl rfl
abbrev MX7_leastOf : am_Y := (yX7_leastOf, cX7_leastOf, 2, some FieldType.int)
set_option maxRecDepth 40000 in
theorem cwX7_leastOf : Cond.code MX7_leastOf.1 MX7_leastOf.2.1 MX7_leastOf.2.2.1 MX7_leastOf.2.2.2 ∈ am_tbl := am_in 454 rfl rfl
abbrev MX8_init : am_Y := (yX8_init, cX8_init, 1, none)
set_option maxRecDepth 40000 in
theorem cwX8_init : Cond.code MX8_init.1 MX8_init.2.1 MX8_init.2.2.1 MX8_init.2.2.2 ∈ am_tbl := am_in 638 rfl rfl
abbrev MX8_value : am_Y := (yX8_value, cX8_value, 2, some FieldType.int)
set_option maxRecDepth 40000 in
theorem cwX8_value : Cond.code MX8_value.1 MX8_value.2.1 MX8_value.2.2.1 MX8_value.2.2.2 ∈ am_tbl := am_in 728 rfl rfl
abbrev MX8_isValue : am_Y := (yX8_isValue, cX8_isValue, 2, some FieldType.boolean)
set_option maxRecDepth 40000 in
theorem cwX8_isValue : Cond.code MX8_isValue.1 MX8_isValue.2.1 MX8_isValue.2.2.1 MX8_isValue.2.2.2 ∈ am_tbl := am_in 740 rfl rfl
abbrev MX8_isOf : am_Y := (yX8_isOf, cX8_isOf, 3, some FieldType.boolean)
set_option maxRecDepth 40000 in
theorem cwX8_isOf : Cond.code MX8_isOf.1 MX8_isOf.2.1 MX8_isOf.2.2.1 MX8_isOf.2.2.2 ∈ am_tbl := am_in 744 rfl rfl
abbrev MX8_mayBe : am_Y := (yX8_mayBe, cX8_mayBe, 5, some FieldType.boolean)
set_option maxRecDepth 40000 in
theorem cwX8_mayBe : Cond.code MX8_mayBe.1 MX8_mayBe.2.1 MX8_mayBe.2.2.1 MX8_mayBe.2.2.2 ∈ am_tbl := am_in 736 rfl rfl
abbrev MX8_put : am_Y := (yX8_put, cX8_put, 5, some FieldType.int)
set_option maxRecDepth 40000 in
theorem cwX8_put : Cond.code MX8_put.1 MX8_put.2.1 MX8_put.2.2.1 MX8_put.2.2.2 ∈ am_tbl := am_in 732 rfl rfl
abbrev MX8_clear : am_Y := (yX8_clear, cX8_clear, 2, some FieldType.int)
set_option maxRecDepth 40000 in
theorem cwX8_clear : Cond.code MX8_clear.1 MX8_clear.2.1 MX8_clear.2.2.1 MX8_clear.2.2.2 ∈ am_tbl := am_in 748 rfl rfl
abbrev MX8_registers : am_Y := (yX8_registers, cX8_registers, 3, some FieldType.int)
set_option maxRecDepth 40000 in
theorem cwX8_registers : Cond.code MX8_registers.1 MX8_registers.2.1 MX8_registers.2.2.1 MX8_registers.2.2.2 ∈ am_tbl := am_in 752 rfl rfl
abbrev MX8_memory : am_Y := (yX8_memory, cX8_memory, 3, some FieldType.int)
set_option maxRecDepth 40000 in
theorem cwX8_memory : Cond.code MX8_memory.1 MX8_memory.2.1 MX8_memory.2.2.1 MX8_memory.2.2.2 ∈ am_tbl := am_in 756 rfl rfl
abbrev MX8_taken : am_Y := (yX8_taken, cX8_taken, 4, some FieldType.int)
set_option maxRecDepth 40000 in
theorem cwX8_taken : Cond.code MX8_taken.1 MX8_taken.2.1 MX8_taken.2.2.1 MX8_taken.2.2.2 ∈ am_tbl := am_in 780 rfl rfl
abbrev MX8_anew : am_Y := (yX8_anew, cX8_anew, 2, some FieldType.int)
set_option maxRecDepth 40000 in
theorem cwX8_anew : Cond.code MX8_anew.1 MX8_anew.2.1 MX8_anew.2.2.1 MX8_anew.2.2.2 ∈ am_tbl := am_in 772 rfl rfl
abbrev MX8_taking : am_Y := (yX8_taking, cX8_taking, 5, some FieldType.int)
set_option maxRecDepth 40000 in
theorem cwX8_taking : Cond.code MX8_taking.1 MX8_taking.2.1 MX8_taking.2.2.1 MX8_taking.2.2.2 ∈ am_tbl := am_in 776 rfl rfl
abbrev MX8_liveAt : am_Y := (yX8_liveAt, cX8_liveAt, 2, some FieldType.int)
set_option maxRecDepth 40000 in
theorem cwX8_liveAt : Cond.code MX8_liveAt.1 MX8_liveAt.2.1 MX8_liveAt.2.2.1 MX8_liveAt.2.2.2 ∈ am_tbl := am_in 768 rfl rfl
abbrev MX8_flow : am_Y := (yX8_flow, cX8_flow, 7, none)
set_option maxRecDepth 40000 in
theorem cwX8_flow : Cond.code MX8_flow.1 MX8_flow.2.1 MX8_flow.2.2.1 MX8_flow.2.2.2 ∈ am_tbl := am_in 764 rfl rfl
abbrev MX8_meet : am_Y := (yX8_meet, cX8_meet, 5, none)
set_option maxRecDepth 40000 in
theorem cwX8_meet : Cond.code MX8_meet.1 MX8_meet.2.1 MX8_meet.2.2.1 MX8_meet.2.2.2 ∈ am_tbl := am_in 788 rfl rfl
abbrev MX8_isJoined : am_Y := (yX8_isJoined, cX8_isJoined, 5, some FieldType.boolean)
set_option maxRecDepth 40000 in
theorem cwX8_isJoined : Cond.code MX8_isJoined.1 MX8_isJoined.2.1 MX8_isJoined.2.2.1 MX8_isJoined.2.2.2 ∈ am_tbl := am_in 808 rfl rfl
abbrev MX8_isFree : am_Y := (yX8_isFree, cX8_isFree, 5, some FieldType.boolean)
set_option maxRecDepth 40000 in
theorem cwX8_isFree : Cond.code MX8_isFree.1 MX8_isFree.2.1 MX8_isFree.2.2.1 MX8_isFree.2.2.2 ∈ am_tbl := am_in 812 rfl rfl
abbrev MX8_homeFor : am_Y := (yX8_homeFor, cX8_homeFor, 6, some FieldType.int)
set_option maxRecDepth 40000 in
theorem cwX8_homeFor : Cond.code MX8_homeFor.1 MX8_homeFor.2.1 MX8_homeFor.2.2.1 MX8_homeFor.2.2.2 ∈ am_tbl := am_in 804 rfl rfl
abbrev MX8_settle : am_Y := (yX8_settle, cX8_settle, 3, none)
set_option maxRecDepth 40000 in
theorem cwX8_settle : Cond.code MX8_settle.1 MX8_settle.2.1 MX8_settle.2.2.1 MX8_settle.2.2.2 ∈ am_tbl := am_in 800 rfl rfl
abbrev MX8_lay : am_Y := (yX8_lay, cX8_lay, 6, none)
set_option maxRecDepth 40000 in
theorem cwX8_lay : Cond.code MX8_lay.1 MX8_lay.2.1 MX8_lay.2.2.1 MX8_lay.2.2.2 ∈ am_tbl := am_in 839 rfl rfl
abbrev MX8_register : am_Y := (yX8_register, cX8_register, 2, some FieldType.int)
set_option maxRecDepth 40000 in
theorem cwX8_register : Cond.code MX8_register.1 MX8_register.2.1 MX8_register.2.2.1 MX8_register.2.2.2 ∈ am_tbl := am_in 835 rfl rfl
abbrev MX8_fetch : am_Y := (yX8_fetch, cX8_fetch, 4, none)
set_option maxRecDepth 40000 in
theorem cwX8_fetch : Cond.code MX8_fetch.1 MX8_fetch.2.1 MX8_fetch.2.2.1 MX8_fetch.2.2.2 ∈ am_tbl := am_in 832 rfl rfl
abbrev MX8_from : am_Y := (yX8_from, cX8_from, 4, some FieldType.int)
set_option maxRecDepth 40000 in
theorem cwX8_from : Cond.code MX8_from.1 MX8_from.2.1 MX8_from.2.2.1 MX8_from.2.2.2 ∈ am_tbl := am_in 847 rfl rfl
abbrev MX8_to : am_Y := (yX8_to, cX8_to, 2, some FieldType.int)
set_option maxRecDepth 40000 in
theorem cwX8_to : Cond.code MX8_to.1 MX8_to.2.1 MX8_to.2.2.1 MX8_to.2.2.2 ∈ am_tbl := am_in 843 rfl rfl
abbrev MX8_makeStep : am_Y := (yX8_makeStep, cX8_makeStep, 8, none)
set_option maxRecDepth 40000 in
theorem cwX8_makeStep : Cond.code MX8_makeStep.1 MX8_makeStep.2.1 MX8_makeStep.2.2.1 MX8_makeStep.2.2.2 ∈ am_tbl := am_in 828 rfl rfl
abbrev MX8_makeCode : am_Y := (yX8_makeCode, cX8_makeCode, 3, none)
set_option maxRecDepth 40000 in
theorem cwX8_makeCode : Cond.code MX8_makeCode.1 MX8_makeCode.2.1 MX8_makeCode.2.2.1 MX8_makeCode.2.2.2 ∈ am_tbl := am_in 824 rfl rfl
abbrev MX8_leads : am_Y := (yX8_leads, cX8_leads, 3, some FieldType.int)
set_option maxRecDepth 40000 in
theorem cwX8_leads : Cond.code MX8_leads.1 MX8_leads.2.1 MX8_leads.2.2.1 MX8_leads.2.2.2 ∈ am_tbl := am_in 855 rfl rfl
abbrev MX8_isLedTo : am_Y := (yX8_isLedTo, cX8_isLedTo, 4, some FieldType.boolean)
set_option maxRecDepth 40000 in
theorem cwX8_isLedTo : Cond.code MX8_isLedTo.1 MX8_isLedTo.2.1 MX8_isLedTo.2.2.1 MX8_isLedTo.2.2.2 ∈ am_tbl := am_in 859 rfl rfl
abbrev MX8_needless : am_Y := (yX8_needless, cX8_needless, 6, some FieldType.int)
set_option maxRecDepth 40000 in
theorem cwX8_needless : Cond.code MX8_needless.1 MX8_needless.2.1 MX8_needless.2.2.1 MX8_needless.2.2.2 ∈ am_tbl := am_in 851 rfl rfl
abbrev MX8_take : am_Y := (yX8_take, cX8_take, 4, none)
set_option maxRecDepth 40000 in
theorem cwX8_take : Cond.code MX8_take.1 MX8_take.2.1 MX8_take.2.2.1 MX8_take.2.2.2 ∈ am_tbl := am_in 863 rfl rfl
abbrev MX8_live : am_Y := (yX8_live, cX8_live, 2, some FieldType.int)
set_option maxRecDepth 40000 in
theorem cwX8_live : Cond.code MX8_live.1 MX8_live.2.1 MX8_live.2.2.1 MX8_live.2.2.2 ∈ am_tbl := am_in 760 rfl rfl
abbrev MX8_inWay : am_Y := (yX8_inWay, cX8_inWay, 2, some FieldType.int)
set_option maxRecDepth 40000 in
theorem cwX8_inWay : Cond.code MX8_inWay.1 MX8_inWay.2.1 MX8_inWay.2.2.1 MX8_inWay.2.2.2 ∈ am_tbl := am_in 784 rfl rfl
abbrev MX8_weight : am_Y := (yX8_weight, cX8_weight, 2, some FieldType.int)
set_option maxRecDepth 40000 in
theorem cwX8_weight : Cond.code MX8_weight.1 MX8_weight.2.1 MX8_weight.2.2.1 MX8_weight.2.2.2 ∈ am_tbl := am_in 792 rfl rfl
abbrev MX8_home : am_Y := (yX8_home, cX8_home, 2, some FieldType.int)
set_option maxRecDepth 40000 in
theorem cwX8_home : Cond.code MX8_home.1 MX8_home.2.1 MX8_home.2.2.1 MX8_home.2.2.2 ∈ am_tbl := am_in 796 rfl rfl
abbrev MX8_order : am_Y := (yX8_order, cX8_order, 2, some FieldType.int)
set_option maxRecDepth 40000 in
theorem cwX8_order : Cond.code MX8_order.1 MX8_order.2.1 MX8_order.2.2.1 MX8_order.2.2.2 ∈ am_tbl := am_in 816 rfl rfl
abbrev MX8_slotsOf : am_Y := (yX8_slotsOf, cX8_slotsOf, 6, some FieldType.int)
set_option maxRecDepth 40000 in
theorem cwX8_slotsOf : Cond.code MX8_slotsOf.1 MX8_slotsOf.2.1 MX8_slotsOf.2.2.1 MX8_slotsOf.2.2.2 ∈ am_tbl := am_in 867 rfl rfl
abbrev MX8_count : am_Y := (yX8_count, cX8_count, 2, some FieldType.int)
set_option maxRecDepth 40000 in
theorem cwX8_count : Cond.code MX8_count.1 MX8_count.2.1 MX8_count.2.2.1 MX8_count.2.2.2 ∈ am_tbl := am_in 820 rfl rfl
abbrev MX8_item : am_Y := (yX8_item, cX8_item, 4, some FieldType.int)
set_option maxRecDepth 40000 in
theorem cwX8_item : Cond.code MX8_item.1 MX8_item.2.1 MX8_item.2.2.1 MX8_item.2.2.2 ∈ am_tbl := am_in 871 rfl rfl
abbrev MX8_begin : am_Y := (yX8_begin, cX8_begin, 2, none)
set_option maxRecDepth 40000 in
theorem cwX8_begin : Cond.code MX8_begin.1 MX8_begin.2.1 MX8_begin.2.2.1 MX8_begin.2.2.2 ∈ am_tbl := am_in 879 rfl rfl
abbrev MX8_say : am_Y := (yX8_say, cX8_say, 2, none)
set_option maxRecDepth 40000 in
theorem cwX8_say : Cond.code MX8_say.1 MX8_say.2.1 MX8_say.2.2.1 MX8_say.2.2.2 ∈ am_tbl := am_in 890 rfl rfl
abbrev MX8_reckoned : am_Y := (yX8_reckoned, cX8_reckoned, 3, some FieldType.int)
set_option maxRecDepth 40000 in
theorem cwX8_reckoned : Cond.code MX8_reckoned.1 MX8_reckoned.2.1 MX8_reckoned.2.2.1 MX8_reckoned.2.2.2 ∈ am_tbl := am_in 886 rfl rfl
abbrev MX8_doStep : am_Y := (yX8_doStep, cX8_doStep, 5, some FieldType.int)
set_option maxRecDepth 40000 in
theorem cwX8_doStep : Cond.code MX8_doStep.1 MX8_doStep.2.1 MX8_doStep.2.2.1 MX8_doStep.2.2.2 ∈ am_tbl := am_in 883 rfl rfl
abbrev MX8_doItem : am_Y := (yX8_doItem, cX8_doItem, 7, some FieldType.int)
set_option maxRecDepth 40000 in
theorem cwX8_doItem : Cond.code MX8_doItem.1 MX8_doItem.2.1 MX8_doItem.2.2.1 MX8_doItem.2.2.2 ∈ am_tbl := am_in 894 rfl rfl
abbrev MX8_run : am_Y := (yX8_run, cX8_run, 5, some FieldType.int)
set_option maxRecDepth 40000 in
theorem cwX8_run : Cond.code MX8_run.1 MX8_run.2.1 MX8_run.2.2.1 MX8_run.2.2.2 ∈ am_tbl := am_in 875 rfl rfl
abbrev MX8_made : am_Y := (yX8_made, cX8_made, 2, some FieldType.int)
set_option maxRecDepth 40000 in
theorem cwX8_made : Cond.code MX8_made.1 MX8_made.2.1 MX8_made.2.2.1 MX8_made.2.2.2 ∈ am_tbl := am_in 898 rfl rfl
abbrev MX8_said : am_Y := (yX8_said, cX8_said, 2, some FieldType.int)
set_option maxRecDepth 40000 in
theorem cwX8_said : Cond.code MX8_said.1 MX8_said.2.1 MX8_said.2.2.1 MX8_said.2.2.2 ∈ am_tbl := am_in 902 rfl rfl
abbrev MX8_cell : am_Y := (yX8_cell, cX8_cell, 2, some FieldType.int)
set_option maxRecDepth 40000 in
theorem cwX8_cell : Cond.code MX8_cell.1 MX8_cell.2.1 MX8_cell.2.2.1 MX8_cell.2.2.2 ∈ am_tbl := am_in 906 rfl rfl
abbrev MX8_check : am_Y := (yX8_check, cX8_check, 1, some FieldType.int)
set_option maxRecDepth 40000 in
theorem cwX8_check : Cond.code MX8_check.1 MX8_check.2.1 MX8_check.2.2.1 MX8_check.2.2.2 ∈ am_tbl := am_in 910 rfl rfl
abbrev MJ6_bitCount_0f7a4 : am_Y := (yJ6_bitCount_0f7a4, cJ6_bitCount_0f7a4, 1, some FieldType.int)
set_option maxRecDepth 40000 in
theorem cwJ6_bitCount_0f7a4 : Cond.code MJ6_bitCount_0f7a4.1 MJ6_bitCount_0f7a4.2.1 MJ6_bitCount_0f7a4.2.2.1 MJ6_bitCount_0f7a4.2.2.2 ∈ am_tbl := am_in 552 rfl rfl
abbrev MJ9_floorMod_7cf53 : am_Y := (yJ9_floorMod_7cf53, cJ9_floorMod_7cf53, 3, some FieldType.int)
set_option maxRecDepth 40000 in
theorem cwJ9_floorMod_7cf53 : Cond.code MJ9_floorMod_7cf53.1 MJ9_floorMod_7cf53.2.1 MJ9_floorMod_7cf53.2.2.1 MJ9_floorMod_7cf53.2.2.2 ∈ am_tbl := am_in 594 rfl rfl
abbrev MJ9_max_7cf53 : am_Y := (yJ9_max_7cf53, cJ9_max_7cf53, 2, some FieldType.int)
set_option maxRecDepth 40000 in
theorem cwJ9_max_7cf53 : Cond.code MJ9_max_7cf53.1 MJ9_max_7cf53.2.1 MJ9_max_7cf53.2.2.1 MJ9_max_7cf53.2.2.2 ∈ am_tbl := am_in 524 rfl rfl
abbrev MJ9_min_7cf53 : am_Y := (yJ9_min_7cf53, cJ9_min_7cf53, 2, some FieldType.int)
set_option maxRecDepth 40000 in
theorem cwJ9_min_7cf53 : Cond.code MJ9_min_7cf53.1 MJ9_min_7cf53.2.1 MJ9_min_7cf53.2.2.1 MJ9_min_7cf53.2.2.2 ∈ am_tbl := am_in 616 rfl rfl
end
section
theorem fX8_79 : am_fd RX8 79 8 0 := ⟨RX8, TX8, 28, rfl, by decide, am_in 640 (by decide +kernel) (by decide +kernel), inAX8⟩
theorem pX8_79 : am_pd RX8 79 8 0 (tyX8 0) false RX8 := ⟨TX8, 28, tyX8, rfl, by decide, am_in 640 (by decide +kernel) (by decide +kernel), inAX8, tyX8_ok, nmX8, rfl, rfl, rfl⟩
theorem fX8_7 : am_fd RX8 7 8 1 := ⟨RX8, TX8, 28, rfl, by decide, am_in 641 (by decide +kernel) (by decide +kernel), inAX8⟩
theorem pX8_7 : am_pd RX8 7 8 1 (tyX8 1) true RX8 := ⟨TX8, 28, tyX8, rfl, by decide, am_in 641 (by decide +kernel) (by decide +kernel), inAX8, tyX8_ok, nmX8, rfl, rfl, rfl⟩
theorem fX8_95 : am_fd RX8 95 8 2 := ⟨RX8, TX8, 28, rfl, by decide, am_in 642 (by decide +kernel) (by decide +kernel), inAX8⟩
theorem pX8_95 : am_pd RX8 95 8 2 (tyX8 2) false RX8 := ⟨TX8, 28, tyX8, rfl, by decide, am_in 642 (by decide +kernel) (by decide +kernel), inAX8, tyX8_ok, nmX8, rfl, rfl, rfl⟩
theorem fX8_13 : am_fd RX8 13 8 3 := ⟨RX8, TX8, 28, rfl, by decide, am_in 643 (by decide +kernel) (by decide +kernel), inAX8⟩
theorem pX8_13 : am_pd RX8 13 8 3 (tyX8 3) true RX8 := ⟨TX8, 28, tyX8, rfl, by decide, am_in 643 (by decide +kernel) (by decide +kernel), inAX8, tyX8_ok, nmX8, rfl, rfl, rfl⟩
theorem fX8_16 : am_fd RX8 16 8 4 := ⟨RX8, TX8, 28, rfl, by decide, am_in 644 (by decide +kernel) (by decide +kernel), inAX8⟩
theorem pX8_16 : am_pd RX8 16 8 4 (tyX8 4) true RX8 := ⟨TX8, 28, tyX8, rfl, by decide, am_in 644 (by decide +kernel) (by decide +kernel), inAX8, tyX8_ok, nmX8, rfl, rfl, rfl⟩
theorem fX8_19 : am_fd RX8 19 8 5 := ⟨RX8, TX8, 28, rfl, by decide, am_in 645 (by decide +kernel) (by decide +kernel), inAX8⟩
theorem pX8_19 : am_pd RX8 19 8 5 (tyX8 5) true RX8 := ⟨TX8, 28, tyX8, rfl, by decide, am_in 645 (by decide +kernel) (by decide +kernel), inAX8, tyX8_ok, nmX8, rfl, rfl, rfl⟩
theorem fX8_22 : am_fd RX8 22 8 6 := ⟨RX8, TX8, 28, rfl, by decide, am_in 646 (by decide +kernel) (by decide +kernel), inAX8⟩
theorem pX8_22 : am_pd RX8 22 8 6 (tyX8 6) true RX8 := ⟨TX8, 28, tyX8, rfl, by decide, am_in 646 (by decide +kernel) (by decide +kernel), inAX8, tyX8_ok, nmX8, rfl, rfl, rfl⟩
theorem fX8_25 : am_fd RX8 25 8 7 := ⟨RX8, TX8, 28, rfl, by decide, am_in 647 (by decide +kernel) (by decide +kernel), inAX8⟩
theorem pX8_25 : am_pd RX8 25 8 7 (tyX8 7) true RX8 := ⟨TX8, 28, tyX8, rfl, by decide, am_in 647 (by decide +kernel) (by decide +kernel), inAX8, tyX8_ok, nmX8, rfl, rfl, rfl⟩
theorem fX8_28 : am_fd RX8 28 8 8 := ⟨RX8, TX8, 28, rfl, by decide, am_in 648 (by decide +kernel) (by decide +kernel), inAX8⟩
theorem pX8_28 : am_pd RX8 28 8 8 (tyX8 8) true RX8 := ⟨TX8, 28, tyX8, rfl, by decide, am_in 648 (by decide +kernel) (by decide +kernel), inAX8, tyX8_ok, nmX8, rfl, rfl, rfl⟩
theorem fX8_31 : am_fd RX8 31 8 9 := ⟨RX8, TX8, 28, rfl, by decide, am_in 649 (by decide +kernel) (by decide +kernel), inAX8⟩
theorem pX8_31 : am_pd RX8 31 8 9 (tyX8 9) true RX8 := ⟨TX8, 28, tyX8, rfl, by decide, am_in 649 (by decide +kernel) (by decide +kernel), inAX8, tyX8_ok, nmX8, rfl, rfl, rfl⟩
theorem fX8_34 : am_fd RX8 34 8 10 := ⟨RX8, TX8, 28, rfl, by decide, am_in 650 (by decide +kernel) (by decide +kernel), inAX8⟩
theorem pX8_34 : am_pd RX8 34 8 10 (tyX8 10) true RX8 := ⟨TX8, 28, tyX8, rfl, by decide, am_in 650 (by decide +kernel) (by decide +kernel), inAX8, tyX8_ok, nmX8, rfl, rfl, rfl⟩
theorem fX8_37 : am_fd RX8 37 8 11 := ⟨RX8, TX8, 28, rfl, by decide, am_in 651 (by decide +kernel) (by decide +kernel), inAX8⟩
theorem pX8_37 : am_pd RX8 37 8 11 (tyX8 11) true RX8 := ⟨TX8, 28, tyX8, rfl, by decide, am_in 651 (by decide +kernel) (by decide +kernel), inAX8, tyX8_ok, nmX8, rfl, rfl, rfl⟩
theorem fX8_40 : am_fd RX8 40 8 12 := ⟨RX8, TX8, 28, rfl, by decide, am_in 652 (by decide +kernel) (by decide +kernel), inAX8⟩
theorem pX8_40 : am_pd RX8 40 8 12 (tyX8 12) true RX8 := ⟨TX8, 28, tyX8, rfl, by decide, am_in 652 (by decide +kernel) (by decide +kernel), inAX8, tyX8_ok, nmX8, rfl, rfl, rfl⟩
theorem fX8_43 : am_fd RX8 43 8 13 := ⟨RX8, TX8, 28, rfl, by decide, am_in 653 (by decide +kernel) (by decide +kernel), inAX8⟩
theorem pX8_43 : am_pd RX8 43 8 13 (tyX8 13) true RX8 := ⟨TX8, 28, tyX8, rfl, by decide, am_in 653 (by decide +kernel) (by decide +kernel), inAX8, tyX8_ok, nmX8, rfl, rfl, rfl⟩
theorem fX8_46 : am_fd RX8 46 8 14 := ⟨RX8, TX8, 28, rfl, by decide, am_in 654 (by decide +kernel) (by decide +kernel), inAX8⟩
theorem pX8_46 : am_pd RX8 46 8 14 (tyX8 14) true RX8 := ⟨TX8, 28, tyX8, rfl, by decide, am_in 654 (by decide +kernel) (by decide +kernel), inAX8, tyX8_ok, nmX8, rfl, rfl, rfl⟩
theorem fX8_49 : am_fd RX8 49 8 15 := ⟨RX8, TX8, 28, rfl, by decide, am_in 655 (by decide +kernel) (by decide +kernel), inAX8⟩
theorem pX8_49 : am_pd RX8 49 8 15 (tyX8 15) true RX8 := ⟨TX8, 28, tyX8, rfl, by decide, am_in 655 (by decide +kernel) (by decide +kernel), inAX8, tyX8_ok, nmX8, rfl, rfl, rfl⟩
theorem fX8_52 : am_fd RX8 52 8 16 := ⟨RX8, TX8, 28, rfl, by decide, am_in 656 (by decide +kernel) (by decide +kernel), inAX8⟩
theorem pX8_52 : am_pd RX8 52 8 16 (tyX8 16) true RX8 := ⟨TX8, 28, tyX8, rfl, by decide, am_in 656 (by decide +kernel) (by decide +kernel), inAX8, tyX8_ok, nmX8, rfl, rfl, rfl⟩
theorem fX8_55 : am_fd RX8 55 8 17 := ⟨RX8, TX8, 28, rfl, by decide, am_in 657 (by decide +kernel) (by decide +kernel), inAX8⟩
theorem pX8_55 : am_pd RX8 55 8 17 (tyX8 17) true RX8 := ⟨TX8, 28, tyX8, rfl, by decide, am_in 657 (by decide +kernel) (by decide +kernel), inAX8, tyX8_ok, nmX8, rfl, rfl, rfl⟩
theorem fX8_172 : am_fd RX8 172 8 18 := ⟨RX8, TX8, 28, rfl, by decide, am_in 658 (by decide +kernel) (by decide +kernel), inAX8⟩
theorem pX8_172 : am_pd RX8 172 8 18 (tyX8 18) false RX8 := ⟨TX8, 28, tyX8, rfl, by decide, am_in 658 (by decide +kernel) (by decide +kernel), inAX8, tyX8_ok, nmX8, rfl, rfl, rfl⟩
theorem fX8_175 : am_fd RX8 175 8 19 := ⟨RX8, TX8, 28, rfl, by decide, am_in 659 (by decide +kernel) (by decide +kernel), inAX8⟩
theorem pX8_175 : am_pd RX8 175 8 19 (tyX8 19) false RX8 := ⟨TX8, 28, tyX8, rfl, by decide, am_in 659 (by decide +kernel) (by decide +kernel), inAX8, tyX8_ok, nmX8, rfl, rfl, rfl⟩
theorem fX8_58 : am_fd RX8 58 8 20 := ⟨RX8, TX8, 28, rfl, by decide, am_in 660 (by decide +kernel) (by decide +kernel), inAX8⟩
theorem pX8_58 : am_pd RX8 58 8 20 (tyX8 20) true RX8 := ⟨TX8, 28, tyX8, rfl, by decide, am_in 660 (by decide +kernel) (by decide +kernel), inAX8, tyX8_ok, nmX8, rfl, rfl, rfl⟩
theorem fX8_61 : am_fd RX8 61 8 21 := ⟨RX8, TX8, 28, rfl, by decide, am_in 661 (by decide +kernel) (by decide +kernel), inAX8⟩
theorem pX8_61 : am_pd RX8 61 8 21 (tyX8 21) true RX8 := ⟨TX8, 28, tyX8, rfl, by decide, am_in 661 (by decide +kernel) (by decide +kernel), inAX8, tyX8_ok, nmX8, rfl, rfl, rfl⟩
theorem fX8_64 : am_fd RX8 64 8 22 := ⟨RX8, TX8, 28, rfl, by decide, am_in 662 (by decide +kernel) (by decide +kernel), inAX8⟩
theorem pX8_64 : am_pd RX8 64 8 22 (tyX8 22) true RX8 := ⟨TX8, 28, tyX8, rfl, by decide, am_in 662 (by decide +kernel) (by decide +kernel), inAX8, tyX8_ok, nmX8, rfl, rfl, rfl⟩
theorem fX8_67 : am_fd RX8 67 8 23 := ⟨RX8, TX8, 28, rfl, by decide, am_in 663 (by decide +kernel) (by decide +kernel), inAX8⟩
theorem pX8_67 : am_pd RX8 67 8 23 (tyX8 23) true RX8 := ⟨TX8, 28, tyX8, rfl, by decide, am_in 663 (by decide +kernel) (by decide +kernel), inAX8, tyX8_ok, nmX8, rfl, rfl, rfl⟩
theorem fX8_70 : am_fd RX8 70 8 24 := ⟨RX8, TX8, 28, rfl, by decide, am_in 664 (by decide +kernel) (by decide +kernel), inAX8⟩
theorem pX8_70 : am_pd RX8 70 8 24 (tyX8 24) true RX8 := ⟨TX8, 28, tyX8, rfl, by decide, am_in 664 (by decide +kernel) (by decide +kernel), inAX8, tyX8_ok, nmX8, rfl, rfl, rfl⟩
theorem fX8_127 : am_fd RX8 127 8 25 := ⟨RX8, TX8, 28, rfl, by decide, am_in 665 (by decide +kernel) (by decide +kernel), inAX8⟩
theorem pX8_127 : am_pd RX8 127 8 25 (tyX8 25) false RX8 := ⟨TX8, 28, tyX8, rfl, by decide, am_in 665 (by decide +kernel) (by decide +kernel), inAX8, tyX8_ok, nmX8, rfl, rfl, rfl⟩
theorem fX8_73 : am_fd RX8 73 8 26 := ⟨RX8, TX8, 28, rfl, by decide, am_in 666 (by decide +kernel) (by decide +kernel), inAX8⟩
theorem pX8_73 : am_pd RX8 73 8 26 (tyX8 26) true RX8 := ⟨TX8, 28, tyX8, rfl, by decide, am_in 666 (by decide +kernel) (by decide +kernel), inAX8, tyX8_ok, nmX8, rfl, rfl, rfl⟩
theorem fX8_76 : am_fd RX8 76 8 27 := ⟨RX8, TX8, 28, rfl, by decide, am_in 667 (by decide +kernel) (by decide +kernel), inAX8⟩
theorem pX8_76 : am_pd RX8 76 8 27 (tyX8 27) true RX8 := ⟨TX8, 28, tyX8, rfl, by decide, am_in 667 (by decide +kernel) (by decide +kernel), inAX8, tyX8_ok, nmX8, rfl, rfl, rfl⟩
theorem oX8_1 : Cond.methodLink RX8 1 objectInit ∈ am_tbl := am_in 639 (by decide +kernel) (by decide +kernel)
theorem sX8_91 : am_site RX8 91 MX8_mayBe 4 := ⟨am_in 733 (by decide +kernel) (by decide +kernel), am_in 59 (by decide +kernel) (by decide +kernel), cwX8_mayBe, by decide +kernel, by decide +kernel, by decide +kernel⟩
theorem sX8_83 : am_site RX8 83 MX8_isValue 1 := ⟨am_in 737 (by decide +kernel) (by decide +kernel), am_in 59 (by decide +kernel) (by decide +kernel), cwX8_isValue, by decide +kernel, by decide +kernel, by decide +kernel⟩
theorem sX8_87 : am_site RX8 87 MX8_isOf 2 := ⟨am_in 741 (by decide +kernel) (by decide +kernel), am_in 59 (by decide +kernel) (by decide +kernel), cwX8_isOf, by decide +kernel, by decide +kernel, by decide +kernel⟩
theorem sX8_118 : am_site RX8 118 MX8_flow 0 := ⟨am_in 761 (by decide +kernel) (by decide +kernel), am_in 59 (by decide +kernel) (by decide +kernel), cwX8_flow, by decide +kernel, by decide +kernel, by decide +kernel⟩
theorem sX8_102 : am_site RX8 102 MX8_liveAt 1 := ⟨am_in 765 (by decide +kernel) (by decide +kernel), am_in 59 (by decide +kernel) (by decide +kernel), cwX8_liveAt, by decide +kernel, by decide +kernel, by decide +kernel⟩
theorem sX8_106 : am_site RX8 106 MX8_anew 1 := ⟨am_in 769 (by decide +kernel) (by decide +kernel), am_in 59 (by decide +kernel) (by decide +kernel), cwX8_anew, by decide +kernel, by decide +kernel, by decide +kernel⟩
theorem sX8_109 : am_site RX8 109 MX8_taking 1 := ⟨am_in 773 (by decide +kernel) (by decide +kernel), am_in 59 (by decide +kernel) (by decide +kernel), cwX8_taking, by decide +kernel, by decide +kernel, by decide +kernel⟩
theorem sX8_98 : am_site RX8 98 MX8_taken 2 := ⟨am_in 777 (by decide +kernel) (by decide +kernel), am_in 59 (by decide +kernel) (by decide +kernel), cwX8_taken, by decide +kernel, by decide +kernel, by decide +kernel⟩
theorem sX8_121 : am_site RX8 121 MX8_meet 0 := ⟨am_in 785 (by decide +kernel) (by decide +kernel), am_in 59 (by decide +kernel) (by decide +kernel), cwX8_meet, by decide +kernel, by decide +kernel, by decide +kernel⟩
theorem sX8_147 : am_site RX8 147 MX8_settle 0 := ⟨am_in 797 (by decide +kernel) (by decide +kernel), am_in 59 (by decide +kernel) (by decide +kernel), cwX8_settle, by decide +kernel, by decide +kernel, by decide +kernel⟩
theorem sX8_124 : am_site RX8 124 MX8_homeFor 1 := ⟨am_in 801 (by decide +kernel) (by decide +kernel), am_in 59 (by decide +kernel) (by decide +kernel), cwX8_homeFor, by decide +kernel, by decide +kernel, by decide +kernel⟩
theorem sX8_112 : am_site RX8 112 MX8_isJoined 2 := ⟨am_in 805 (by decide +kernel) (by decide +kernel), am_in 59 (by decide +kernel) (by decide +kernel), cwX8_isJoined, by decide +kernel, by decide +kernel, by decide +kernel⟩
theorem sX8_115 : am_site RX8 115 MX8_isFree 2 := ⟨am_in 809 (by decide +kernel) (by decide +kernel), am_in 59 (by decide +kernel) (by decide +kernel), cwX8_isFree, by decide +kernel, by decide +kernel, by decide +kernel⟩
theorem sX8_166 : am_site RX8 166 MX8_makeCode 0 := ⟨am_in 821 (by decide +kernel) (by decide +kernel), am_in 59 (by decide +kernel) (by decide +kernel), cwX8_makeCode, by decide +kernel, by decide +kernel, by decide +kernel⟩
theorem sX8_150 : am_site RX8 150 MX8_makeStep 1 := ⟨am_in 825 (by decide +kernel) (by decide +kernel), am_in 59 (by decide +kernel) (by decide +kernel), cwX8_makeStep, by decide +kernel, by decide +kernel, by decide +kernel⟩
theorem sX8_137 : am_site RX8 137 MX8_fetch 1 := ⟨am_in 829 (by decide +kernel) (by decide +kernel), am_in 59 (by decide +kernel) (by decide +kernel), cwX8_fetch, by decide +kernel, by decide +kernel, by decide +kernel⟩
theorem sX8_130 : am_site RX8 130 MX8_register 2 := ⟨am_in 833 (by decide +kernel) (by decide +kernel), am_in 59 (by decide +kernel) (by decide +kernel), cwX8_register, by decide +kernel, by decide +kernel, by decide +kernel⟩
theorem sX8_133 : am_site RX8 133 MX8_lay 4 := ⟨am_in 836 (by decide +kernel) (by decide +kernel), am_in 59 (by decide +kernel) (by decide +kernel), cwX8_lay, by decide +kernel, by decide +kernel, by decide +kernel⟩
theorem sX8_141 : am_site RX8 141 MX8_to 1 := ⟨am_in 840 (by decide +kernel) (by decide +kernel), am_in 59 (by decide +kernel) (by decide +kernel), cwX8_to, by decide +kernel, by decide +kernel, by decide +kernel⟩
theorem sX8_144 : am_site RX8 144 MX8_from 1 := ⟨am_in 844 (by decide +kernel) (by decide +kernel), am_in 59 (by decide +kernel) (by decide +kernel), cwX8_from, by decide +kernel, by decide +kernel, by decide +kernel⟩
theorem sX8_153 : am_site RX8 153 MX8_needless 0 := ⟨am_in 848 (by decide +kernel) (by decide +kernel), am_in 59 (by decide +kernel) (by decide +kernel), cwX8_needless, by decide +kernel, by decide +kernel, by decide +kernel⟩
theorem sX8_160 : am_site RX8 160 MX8_leads 1 := ⟨am_in 852 (by decide +kernel) (by decide +kernel), am_in 59 (by decide +kernel) (by decide +kernel), cwX8_leads, by decide +kernel, by decide +kernel, by decide +kernel⟩
theorem sX8_163 : am_site RX8 163 MX8_isLedTo 1 := ⟨am_in 856 (by decide +kernel) (by decide +kernel), am_in 59 (by decide +kernel) (by decide +kernel), cwX8_isLedTo, by decide +kernel, by decide +kernel, by decide +kernel⟩
theorem sX8_157 : am_site RX8 157 MX8_take 1 := ⟨am_in 860 (by decide +kernel) (by decide +kernel), am_in 59 (by decide +kernel) (by decide +kernel), cwX8_take, by decide +kernel, by decide +kernel, by decide +kernel⟩
theorem sX8_169 : am_site RX8 169 MX8_slotsOf 1 := ⟨am_in 864 (by decide +kernel) (by decide +kernel), am_in 59 (by decide +kernel) (by decide +kernel), cwX8_slotsOf, by decide +kernel, by decide +kernel, by decide +kernel⟩
theorem sX8_185 : am_site RX8 185 MX8_begin 0 := ⟨am_in 876 (by decide +kernel) (by decide +kernel), am_in 59 (by decide +kernel) (by decide +kernel), cwX8_begin, by decide +kernel, by decide +kernel, by decide +kernel⟩
theorem sX8_188 : am_site RX8 188 MX8_doStep 1 := ⟨am_in 880 (by decide +kernel) (by decide +kernel), am_in 59 (by decide +kernel) (by decide +kernel), cwX8_doStep, by decide +kernel, by decide +kernel, by decide +kernel⟩
theorem sX8_178 : am_site RX8 178 MX8_reckoned 3 := ⟨am_in 884 (by decide +kernel) (by decide +kernel), am_in 59 (by decide +kernel) (by decide +kernel), cwX8_reckoned, by decide +kernel, by decide +kernel, by decide +kernel⟩
theorem sX8_182 : am_site RX8 182 MX8_say 1 := ⟨am_in 887 (by decide +kernel) (by decide +kernel), am_in 59 (by decide +kernel) (by decide +kernel), cwX8_say, by decide +kernel, by decide +kernel, by decide +kernel⟩
theorem sX8_191 : am_site RX8 191 MX8_doItem 2 := ⟨am_in 891 (by decide +kernel) (by decide +kernel), am_in 59 (by decide +kernel) (by decide +kernel), cwX8_doItem, by decide +kernel, by decide +kernel, by decide +kernel⟩
theorem iX8_init : Cond.instanceMethod MX8_init.1 ∈ am_tbl := am_in 637 (by decide +kernel) (by decide +kernel)
theorem iX8_value : Cond.instanceMethod MX8_value.1 ∈ am_tbl := am_in 726 (by decide +kernel) (by decide +kernel)
theorem lX8_value : Cond.selects MX8_value.1.cls MX8_value.1 MX8_value.1 ∈ am_tbl := am_in 727 (by decide +kernel) (by decide +kernel)
theorem iX8_isValue : Cond.instanceMethod MX8_isValue.1 ∈ am_tbl := am_in 739 (by decide +kernel) (by decide +kernel)
theorem lX8_isValue : Cond.selects MX8_isValue.1.cls MX8_isValue.1 MX8_isValue.1 ∈ am_tbl := am_in 23 (by decide +kernel) (by decide +kernel)
theorem iX8_isOf : Cond.instanceMethod MX8_isOf.1 ∈ am_tbl := am_in 743 (by decide +kernel) (by decide +kernel)
theorem lX8_isOf : Cond.selects MX8_isOf.1.cls MX8_isOf.1 MX8_isOf.1 ∈ am_tbl := am_in 24 (by decide +kernel) (by decide +kernel)
theorem iX8_mayBe : Cond.instanceMethod MX8_mayBe.1 ∈ am_tbl := am_in 735 (by decide +kernel) (by decide +kernel)
theorem lX8_mayBe : Cond.selects MX8_mayBe.1.cls MX8_mayBe.1 MX8_mayBe.1 ∈ am_tbl := am_in 22 (by decide +kernel) (by decide +kernel)
theorem iX8_put : Cond.instanceMethod MX8_put.1 ∈ am_tbl := am_in 730 (by decide +kernel) (by decide +kernel)
theorem lX8_put : Cond.selects MX8_put.1.cls MX8_put.1 MX8_put.1 ∈ am_tbl := am_in 731 (by decide +kernel) (by decide +kernel)
theorem iX8_clear : Cond.instanceMethod MX8_clear.1 ∈ am_tbl := am_in 746 (by decide +kernel) (by decide +kernel)
theorem lX8_clear : Cond.selects MX8_clear.1.cls MX8_clear.1 MX8_clear.1 ∈ am_tbl := am_in 747 (by decide +kernel) (by decide +kernel)
theorem iX8_registers : Cond.instanceMethod MX8_registers.1 ∈ am_tbl := am_in 750 (by decide +kernel) (by decide +kernel)
theorem lX8_registers : Cond.selects MX8_registers.1.cls MX8_registers.1 MX8_registers.1 ∈ am_tbl := am_in 751 (by decide +kernel) (by decide +kernel)
theorem iX8_memory : Cond.instanceMethod MX8_memory.1 ∈ am_tbl := am_in 754 (by decide +kernel) (by decide +kernel)
theorem lX8_memory : Cond.selects MX8_memory.1.cls MX8_memory.1 MX8_memory.1 ∈ am_tbl := am_in 755 (by decide +kernel) (by decide +kernel)
theorem iX8_taken : Cond.instanceMethod MX8_taken.1 ∈ am_tbl := am_in 779 (by decide +kernel) (by decide +kernel)
theorem lX8_taken : Cond.selects MX8_taken.1.cls MX8_taken.1 MX8_taken.1 ∈ am_tbl := am_in 29 (by decide +kernel) (by decide +kernel)
theorem iX8_anew : Cond.instanceMethod MX8_anew.1 ∈ am_tbl := am_in 771 (by decide +kernel) (by decide +kernel)
theorem lX8_anew : Cond.selects MX8_anew.1.cls MX8_anew.1 MX8_anew.1 ∈ am_tbl := am_in 27 (by decide +kernel) (by decide +kernel)
theorem iX8_taking : Cond.instanceMethod MX8_taking.1 ∈ am_tbl := am_in 775 (by decide +kernel) (by decide +kernel)
theorem lX8_taking : Cond.selects MX8_taking.1.cls MX8_taking.1 MX8_taking.1 ∈ am_tbl := am_in 28 (by decide +kernel) (by decide +kernel)
theorem iX8_liveAt : Cond.instanceMethod MX8_liveAt.1 ∈ am_tbl := am_in 767 (by decide +kernel) (by decide +kernel)
theorem lX8_liveAt : Cond.selects MX8_liveAt.1.cls MX8_liveAt.1 MX8_liveAt.1 ∈ am_tbl := am_in 26 (by decide +kernel) (by decide +kernel)
theorem iX8_flow : Cond.instanceMethod MX8_flow.1 ∈ am_tbl := am_in 763 (by decide +kernel) (by decide +kernel)
theorem lX8_flow : Cond.selects MX8_flow.1.cls MX8_flow.1 MX8_flow.1 ∈ am_tbl := am_in 25 (by decide +kernel) (by decide +kernel)
theorem iX8_meet : Cond.instanceMethod MX8_meet.1 ∈ am_tbl := am_in 787 (by decide +kernel) (by decide +kernel)
theorem lX8_meet : Cond.selects MX8_meet.1.cls MX8_meet.1 MX8_meet.1 ∈ am_tbl := am_in 30 (by decide +kernel) (by decide +kernel)
theorem iX8_isJoined : Cond.instanceMethod MX8_isJoined.1 ∈ am_tbl := am_in 807 (by decide +kernel) (by decide +kernel)
theorem lX8_isJoined : Cond.selects MX8_isJoined.1.cls MX8_isJoined.1 MX8_isJoined.1 ∈ am_tbl := am_in 33 (by decide +kernel) (by decide +kernel)
theorem iX8_isFree : Cond.instanceMethod MX8_isFree.1 ∈ am_tbl := am_in 811 (by decide +kernel) (by decide +kernel)
theorem lX8_isFree : Cond.selects MX8_isFree.1.cls MX8_isFree.1 MX8_isFree.1 ∈ am_tbl := am_in 34 (by decide +kernel) (by decide +kernel)
theorem iX8_homeFor : Cond.instanceMethod MX8_homeFor.1 ∈ am_tbl := am_in 803 (by decide +kernel) (by decide +kernel)
theorem lX8_homeFor : Cond.selects MX8_homeFor.1.cls MX8_homeFor.1 MX8_homeFor.1 ∈ am_tbl := am_in 32 (by decide +kernel) (by decide +kernel)
theorem iX8_settle : Cond.instanceMethod MX8_settle.1 ∈ am_tbl := am_in 799 (by decide +kernel) (by decide +kernel)
theorem lX8_settle : Cond.selects MX8_settle.1.cls MX8_settle.1 MX8_settle.1 ∈ am_tbl := am_in 31 (by decide +kernel) (by decide +kernel)
theorem iX8_lay : Cond.instanceMethod MX8_lay.1 ∈ am_tbl := am_in 838 (by decide +kernel) (by decide +kernel)
theorem lX8_lay : Cond.selects MX8_lay.1.cls MX8_lay.1 MX8_lay.1 ∈ am_tbl := am_in 38 (by decide +kernel) (by decide +kernel)
theorem zX8_register : Cond.static MX8_register.1 ∈ am_tbl := am_in 834 (by decide +kernel) (by decide +kernel)
theorem iX8_fetch : Cond.instanceMethod MX8_fetch.1 ∈ am_tbl := am_in 831 (by decide +kernel) (by decide +kernel)
theorem lX8_fetch : Cond.selects MX8_fetch.1.cls MX8_fetch.1 MX8_fetch.1 ∈ am_tbl := am_in 37 (by decide +kernel) (by decide +kernel)
theorem iX8_from : Cond.instanceMethod MX8_from.1 ∈ am_tbl := am_in 846 (by decide +kernel) (by decide +kernel)
theorem lX8_from : Cond.selects MX8_from.1.cls MX8_from.1 MX8_from.1 ∈ am_tbl := am_in 40 (by decide +kernel) (by decide +kernel)
theorem iX8_to : Cond.instanceMethod MX8_to.1 ∈ am_tbl := am_in 842 (by decide +kernel) (by decide +kernel)
theorem lX8_to : Cond.selects MX8_to.1.cls MX8_to.1 MX8_to.1 ∈ am_tbl := am_in 39 (by decide +kernel) (by decide +kernel)
theorem iX8_makeStep : Cond.instanceMethod MX8_makeStep.1 ∈ am_tbl := am_in 827 (by decide +kernel) (by decide +kernel)
theorem lX8_makeStep : Cond.selects MX8_makeStep.1.cls MX8_makeStep.1 MX8_makeStep.1 ∈ am_tbl := am_in 36 (by decide +kernel) (by decide +kernel)
theorem iX8_makeCode : Cond.instanceMethod MX8_makeCode.1 ∈ am_tbl := am_in 823 (by decide +kernel) (by decide +kernel)
theorem lX8_makeCode : Cond.selects MX8_makeCode.1.cls MX8_makeCode.1 MX8_makeCode.1 ∈ am_tbl := am_in 35 (by decide +kernel) (by decide +kernel)
theorem iX8_leads : Cond.instanceMethod MX8_leads.1 ∈ am_tbl := am_in 854 (by decide +kernel) (by decide +kernel)
theorem lX8_leads : Cond.selects MX8_leads.1.cls MX8_leads.1 MX8_leads.1 ∈ am_tbl := am_in 42 (by decide +kernel) (by decide +kernel)
theorem iX8_isLedTo : Cond.instanceMethod MX8_isLedTo.1 ∈ am_tbl := am_in 858 (by decide +kernel) (by decide +kernel)
theorem lX8_isLedTo : Cond.selects MX8_isLedTo.1.cls MX8_isLedTo.1 MX8_isLedTo.1 ∈ am_tbl := am_in 43 (by decide +kernel) (by decide +kernel)
theorem iX8_needless : Cond.instanceMethod MX8_needless.1 ∈ am_tbl := am_in 850 (by decide +kernel) (by decide +kernel)
theorem lX8_needless : Cond.selects MX8_needless.1.cls MX8_needless.1 MX8_needless.1 ∈ am_tbl := am_in 41 (by decide +kernel) (by decide +kernel)
theorem iX8_take : Cond.instanceMethod MX8_take.1 ∈ am_tbl := am_in 862 (by decide +kernel) (by decide +kernel)
theorem lX8_take : Cond.selects MX8_take.1.cls MX8_take.1 MX8_take.1 ∈ am_tbl := am_in 44 (by decide +kernel) (by decide +kernel)
theorem iX8_live : Cond.instanceMethod MX8_live.1 ∈ am_tbl := am_in 758 (by decide +kernel) (by decide +kernel)
theorem lX8_live : Cond.selects MX8_live.1.cls MX8_live.1 MX8_live.1 ∈ am_tbl := am_in 759 (by decide +kernel) (by decide +kernel)
theorem iX8_inWay : Cond.instanceMethod MX8_inWay.1 ∈ am_tbl := am_in 782 (by decide +kernel) (by decide +kernel)
theorem lX8_inWay : Cond.selects MX8_inWay.1.cls MX8_inWay.1 MX8_inWay.1 ∈ am_tbl := am_in 783 (by decide +kernel) (by decide +kernel)
theorem iX8_weight : Cond.instanceMethod MX8_weight.1 ∈ am_tbl := am_in 790 (by decide +kernel) (by decide +kernel)
theorem lX8_weight : Cond.selects MX8_weight.1.cls MX8_weight.1 MX8_weight.1 ∈ am_tbl := am_in 791 (by decide +kernel) (by decide +kernel)
theorem iX8_home : Cond.instanceMethod MX8_home.1 ∈ am_tbl := am_in 794 (by decide +kernel) (by decide +kernel)
theorem lX8_home : Cond.selects MX8_home.1.cls MX8_home.1 MX8_home.1 ∈ am_tbl := am_in 795 (by decide +kernel) (by decide +kernel)
theorem iX8_order : Cond.instanceMethod MX8_order.1 ∈ am_tbl := am_in 814 (by decide +kernel) (by decide +kernel)
theorem lX8_order : Cond.selects MX8_order.1.cls MX8_order.1 MX8_order.1 ∈ am_tbl := am_in 815 (by decide +kernel) (by decide +kernel)
theorem iX8_slotsOf : Cond.instanceMethod MX8_slotsOf.1 ∈ am_tbl := am_in 866 (by decide +kernel) (by decide +kernel)
theorem lX8_slotsOf : Cond.selects MX8_slotsOf.1.cls MX8_slotsOf.1 MX8_slotsOf.1 ∈ am_tbl := am_in 45 (by decide +kernel) (by decide +kernel)
theorem iX8_count : Cond.instanceMethod MX8_count.1 ∈ am_tbl := am_in 818 (by decide +kernel) (by decide +kernel)
theorem lX8_count : Cond.selects MX8_count.1.cls MX8_count.1 MX8_count.1 ∈ am_tbl := am_in 819 (by decide +kernel) (by decide +kernel)
theorem iX8_item : Cond.instanceMethod MX8_item.1 ∈ am_tbl := am_in 869 (by decide +kernel) (by decide +kernel)
theorem lX8_item : Cond.selects MX8_item.1.cls MX8_item.1 MX8_item.1 ∈ am_tbl := am_in 870 (by decide +kernel) (by decide +kernel)
theorem iX8_begin : Cond.instanceMethod MX8_begin.1 ∈ am_tbl := am_in 878 (by decide +kernel) (by decide +kernel)
theorem lX8_begin : Cond.selects MX8_begin.1.cls MX8_begin.1 MX8_begin.1 ∈ am_tbl := am_in 46 (by decide +kernel) (by decide +kernel)
theorem iX8_say : Cond.instanceMethod MX8_say.1 ∈ am_tbl := am_in 889 (by decide +kernel) (by decide +kernel)
theorem lX8_say : Cond.selects MX8_say.1.cls MX8_say.1 MX8_say.1 ∈ am_tbl := am_in 48 (by decide +kernel) (by decide +kernel)
theorem zX8_reckoned : Cond.static MX8_reckoned.1 ∈ am_tbl := am_in 885 (by decide +kernel) (by decide +kernel)
theorem iX8_doStep : Cond.instanceMethod MX8_doStep.1 ∈ am_tbl := am_in 882 (by decide +kernel) (by decide +kernel)
theorem lX8_doStep : Cond.selects MX8_doStep.1.cls MX8_doStep.1 MX8_doStep.1 ∈ am_tbl := am_in 47 (by decide +kernel) (by decide +kernel)
theorem iX8_doItem : Cond.instanceMethod MX8_doItem.1 ∈ am_tbl := am_in 893 (by decide +kernel) (by decide +kernel)
theorem lX8_doItem : Cond.selects MX8_doItem.1.cls MX8_doItem.1 MX8_doItem.1 ∈ am_tbl := am_in 49 (by decide +kernel) (by decide +kernel)
theorem iX8_run : Cond.instanceMethod MX8_run.1 ∈ am_tbl := am_in 873 (by decide +kernel) (by decide +kernel)
theorem lX8_run : Cond.selects MX8_run.1.cls MX8_run.1 MX8_run.1 ∈ am_tbl := am_in 874 (by decide +kernel) (by decide +kernel)
theorem iX8_made : Cond.instanceMethod MX8_made.1 ∈ am_tbl := am_in 896 (by decide +kernel) (by decide +kernel)
theorem lX8_made : Cond.selects MX8_made.1.cls MX8_made.1 MX8_made.1 ∈ am_tbl := am_in 897 (by decide +kernel) (by decide +kernel)
theorem iX8_said : Cond.instanceMethod MX8_said.1 ∈ am_tbl := am_in 900 (by decide +kernel) (by decide +kernel)
theorem lX8_said : Cond.selects MX8_said.1.cls MX8_said.1 MX8_said.1 ∈ am_tbl := am_in 901 (by decide +kernel) (by decide +kernel)
theorem iX8_cell : Cond.instanceMethod MX8_cell.1 ∈ am_tbl := am_in 904 (by decide +kernel) (by decide +kernel)
theorem lX8_cell : Cond.selects MX8_cell.1.cls MX8_cell.1 MX8_cell.1 ∈ am_tbl := am_in 905 (by decide +kernel) (by decide +kernel)
theorem iX8_check : Cond.instanceMethod MX8_check.1 ∈ am_tbl := am_in 908 (by decide +kernel) (by decide +kernel)
theorem lX8_check : Cond.selects MX8_check.1.cls MX8_check.1 MX8_check.1 ∈ am_tbl := am_in 909 (by decide +kernel) (by decide +kernel)
theorem zJ6_bitCount_0f7a4 : Cond.static MJ6_bitCount_0f7a4.1 ∈ am_tbl := am_in 551 (by decide +kernel) (by decide +kernel)
theorem zJ9_floorMod_7cf53 : Cond.static MJ9_floorMod_7cf53.1 ∈ am_tbl := am_in 593 (by decide +kernel) (by decide +kernel)
theorem zJ9_max_7cf53 : Cond.static MJ9_max_7cf53.1 ∈ am_tbl := am_in 523 (by decide +kernel) (by decide +kernel)
theorem zJ9_min_7cf53 : Cond.static MJ9_min_7cf53.1 ∈ am_tbl := am_in 615 (by decide +kernel) (by decide +kernel)
theorem oi_inst : Cond.instanceMethod objectInit ∈ am_tbl := am_in 68 (by decide +kernel) (by decide +kernel)
theorem oi_code : Cond.code objectInit ⟨#[0xb1]⟩ 1 none ∈ am_tbl := am_in 69 rfl rfl
end
section
theorem dX8_init_0 : decode cX8_init 0 = .ok (.aload_n 0, 1) := by decide +kernel
theorem dX8_init_1 : decode cX8_init 1 = .ok (.invokespecial 1, 3) := by decide +kernel
theorem dX8_init_4 : decode cX8_init 4 = .ok (.aload_n 0, 1) := by decide +kernel
theorem dX8_init_5 : decode cX8_init 5 = .ok (.bipush 24, 2) := by decide +kernel
theorem dX8_init_7 : decode cX8_init 7 = .ok (.newarray .int, 2) := by decide +kernel
theorem dX8_init_9 : decode cX8_init 9 = .ok (.putfield 7, 3) := by decide +kernel
theorem dX8_init_12 : decode cX8_init 12 = .ok (.aload_n 0, 1) := by decide +kernel
theorem dX8_init_13 : decode cX8_init 13 = .ok (.bipush 60, 2) := by decide +kernel
theorem dX8_init_15 : decode cX8_init 15 = .ok (.newarray .int, 2) := by decide +kernel
theorem dX8_init_17 : decode cX8_init 17 = .ok (.putfield 13, 3) := by decide +kernel
theorem dX8_init_20 : decode cX8_init 20 = .ok (.aload_n 0, 1) := by decide +kernel
theorem dX8_init_21 : decode cX8_init 21 = .ok (.bipush 60, 2) := by decide +kernel
theorem dX8_init_23 : decode cX8_init 23 = .ok (.newarray .int, 2) := by decide +kernel
theorem dX8_init_25 : decode cX8_init 25 = .ok (.putfield 16, 3) := by decide +kernel
theorem dX8_init_28 : decode cX8_init 28 = .ok (.aload_n 0, 1) := by decide +kernel
theorem dX8_init_29 : decode cX8_init 29 = .ok (.bipush 60, 2) := by decide +kernel
theorem dX8_init_31 : decode cX8_init 31 = .ok (.newarray .int, 2) := by decide +kernel
theorem dX8_init_33 : decode cX8_init 33 = .ok (.putfield 19, 3) := by decide +kernel
theorem dX8_init_36 : decode cX8_init 36 = .ok (.aload_n 0, 1) := by decide +kernel
theorem dX8_init_37 : decode cX8_init 37 = .ok (.bipush 60, 2) := by decide +kernel
theorem dX8_init_39 : decode cX8_init 39 = .ok (.newarray .int, 2) := by decide +kernel
theorem dX8_init_41 : decode cX8_init 41 = .ok (.putfield 22, 3) := by decide +kernel
theorem dX8_init_44 : decode cX8_init 44 = .ok (.aload_n 0, 1) := by decide +kernel
theorem dX8_init_45 : decode cX8_init 45 = .ok (.iconst 2, 1) := by decide +kernel
theorem dX8_init_46 : decode cX8_init 46 = .ok (.newarray .int, 2) := by decide +kernel
theorem dX8_init_48 : decode cX8_init 48 = .ok (.putfield 25, 3) := by decide +kernel
theorem dX8_init_51 : decode cX8_init 51 = .ok (.aload_n 0, 1) := by decide +kernel
theorem dX8_init_52 : decode cX8_init 52 = .ok (.bipush 64, 2) := by decide +kernel
theorem dX8_init_54 : decode cX8_init 54 = .ok (.newarray .int, 2) := by decide +kernel
theorem dX8_init_56 : decode cX8_init 56 = .ok (.putfield 28, 3) := by decide +kernel
theorem dX8_init_59 : decode cX8_init 59 = .ok (.aload_n 0, 1) := by decide +kernel
theorem dX8_init_60 : decode cX8_init 60 = .ok (.bipush 60, 2) := by decide +kernel
theorem dX8_init_62 : decode cX8_init 62 = .ok (.newarray .int, 2) := by decide +kernel
theorem dX8_init_64 : decode cX8_init 64 = .ok (.putfield 31, 3) := by decide +kernel
theorem dX8_init_67 : decode cX8_init 67 = .ok (.aload_n 0, 1) := by decide +kernel
theorem dX8_init_68 : decode cX8_init 68 = .ok (.bipush 60, 2) := by decide +kernel
theorem dX8_init_70 : decode cX8_init 70 = .ok (.newarray .int, 2) := by decide +kernel
theorem dX8_init_72 : decode cX8_init 72 = .ok (.putfield 34, 3) := by decide +kernel
theorem dX8_init_75 : decode cX8_init 75 = .ok (.aload_n 0, 1) := by decide +kernel
theorem dX8_init_76 : decode cX8_init 76 = .ok (.bipush 24, 2) := by decide +kernel
theorem dX8_init_78 : decode cX8_init 78 = .ok (.newarray .int, 2) := by decide +kernel
theorem dX8_init_80 : decode cX8_init 80 = .ok (.putfield 37, 3) := by decide +kernel
theorem dX8_init_83 : decode cX8_init 83 = .ok (.aload_n 0, 1) := by decide +kernel
theorem dX8_init_84 : decode cX8_init 84 = .ok (.bipush 24, 2) := by decide +kernel
theorem dX8_init_86 : decode cX8_init 86 = .ok (.newarray .int, 2) := by decide +kernel
theorem dX8_init_88 : decode cX8_init 88 = .ok (.putfield 40, 3) := by decide +kernel
theorem dX8_init_91 : decode cX8_init 91 = .ok (.aload_n 0, 1) := by decide +kernel
theorem dX8_init_92 : decode cX8_init 92 = .ok (.bipush 24, 2) := by decide +kernel
theorem dX8_init_94 : decode cX8_init 94 = .ok (.newarray .int, 2) := by decide +kernel
theorem dX8_init_96 : decode cX8_init 96 = .ok (.putfield 43, 3) := by decide +kernel
theorem dX8_init_99 : decode cX8_init 99 = .ok (.aload_n 0, 1) := by decide +kernel
theorem dX8_init_100 : decode cX8_init 100 = .ok (.bipush 24, 2) := by decide +kernel
theorem dX8_init_102 : decode cX8_init 102 = .ok (.newarray .int, 2) := by decide +kernel
theorem dX8_init_104 : decode cX8_init 104 = .ok (.putfield 46, 3) := by decide +kernel
theorem dX8_init_107 : decode cX8_init 107 = .ok (.aload_n 0, 1) := by decide +kernel
theorem dX8_init_108 : decode cX8_init 108 = .ok (.sipush 3200, 3) := by decide +kernel
theorem dX8_init_111 : decode cX8_init 111 = .ok (.newarray .int, 2) := by decide +kernel
theorem dX8_init_113 : decode cX8_init 113 = .ok (.putfield 49, 3) := by decide +kernel
theorem dX8_init_116 : decode cX8_init 116 = .ok (.aload_n 0, 1) := by decide +kernel
theorem dX8_init_117 : decode cX8_init 117 = .ok (.iconst 2, 1) := by decide +kernel
theorem dX8_init_118 : decode cX8_init 118 = .ok (.newarray .int, 2) := by decide +kernel
theorem dX8_init_120 : decode cX8_init 120 = .ok (.putfield 52, 3) := by decide +kernel
theorem dX8_init_123 : decode cX8_init 123 = .ok (.aload_n 0, 1) := by decide +kernel
theorem dX8_init_124 : decode cX8_init 124 = .ok (.bipush 62, 2) := by decide +kernel
theorem dX8_init_126 : decode cX8_init 126 = .ok (.newarray .int, 2) := by decide +kernel
theorem dX8_init_128 : decode cX8_init 128 = .ok (.putfield 55, 3) := by decide +kernel
theorem dX8_init_131 : decode cX8_init 131 = .ok (.aload_n 0, 1) := by decide +kernel
theorem dX8_init_132 : decode cX8_init 132 = .ok (.bipush 50, 2) := by decide +kernel
theorem dX8_init_134 : decode cX8_init 134 = .ok (.newarray .int, 2) := by decide +kernel
theorem dX8_init_136 : decode cX8_init 136 = .ok (.putfield 58, 3) := by decide +kernel
theorem dX8_init_139 : decode cX8_init 139 = .ok (.aload_n 0, 1) := by decide +kernel
theorem dX8_init_140 : decode cX8_init 140 = .ok (.bipush 64, 2) := by decide +kernel
theorem dX8_init_142 : decode cX8_init 142 = .ok (.newarray .int, 2) := by decide +kernel
theorem dX8_init_144 : decode cX8_init 144 = .ok (.putfield 61, 3) := by decide +kernel
theorem dX8_init_147 : decode cX8_init 147 = .ok (.aload_n 0, 1) := by decide +kernel
theorem dX8_init_148 : decode cX8_init 148 = .ok (.bipush 32, 2) := by decide +kernel
theorem dX8_init_150 : decode cX8_init 150 = .ok (.newarray .int, 2) := by decide +kernel
theorem dX8_init_152 : decode cX8_init 152 = .ok (.putfield 64, 3) := by decide +kernel
theorem dX8_init_155 : decode cX8_init 155 = .ok (.aload_n 0, 1) := by decide +kernel
theorem dX8_init_156 : decode cX8_init 156 = .ok (.bipush 64, 2) := by decide +kernel
theorem dX8_init_158 : decode cX8_init 158 = .ok (.newarray .int, 2) := by decide +kernel
theorem dX8_init_160 : decode cX8_init 160 = .ok (.putfield 67, 3) := by decide +kernel
theorem dX8_init_163 : decode cX8_init 163 = .ok (.aload_n 0, 1) := by decide +kernel
theorem dX8_init_164 : decode cX8_init 164 = .ok (.bipush 24, 2) := by decide +kernel
theorem dX8_init_166 : decode cX8_init 166 = .ok (.newarray .int, 2) := by decide +kernel
theorem dX8_init_168 : decode cX8_init 168 = .ok (.putfield 70, 3) := by decide +kernel
theorem dX8_init_171 : decode cX8_init 171 = .ok (.aload_n 0, 1) := by decide +kernel
theorem dX8_init_172 : decode cX8_init 172 = .ok (.iconst 2, 1) := by decide +kernel
theorem dX8_init_173 : decode cX8_init 173 = .ok (.newarray .int, 2) := by decide +kernel
theorem dX8_init_175 : decode cX8_init 175 = .ok (.putfield 73, 3) := by decide +kernel
theorem dX8_init_178 : decode cX8_init 178 = .ok (.aload_n 0, 1) := by decide +kernel
theorem dX8_init_179 : decode cX8_init 179 = .ok (.iconst 2, 1) := by decide +kernel
theorem dX8_init_180 : decode cX8_init 180 = .ok (.newarray .int, 2) := by decide +kernel
theorem dX8_init_182 : decode cX8_init 182 = .ok (.putfield 76, 3) := by decide +kernel
theorem dX8_init_185 : decode cX8_init 185 = .ok (.return_, 1) := by decide +kernel
theorem dX8_value_0 : decode cX8_value 0 = .ok (.iload_n 1, 1) := by decide +kernel
theorem dX8_value_1 : decode cX8_value 1 = .ok (.ifCond .lt 17, 3) := by decide +kernel
theorem dX8_value_4 : decode cX8_value 4 = .ok (.iload_n 1, 1) := by decide +kernel
theorem dX8_value_5 : decode cX8_value 5 = .ok (.iconst 1, 1) := by decide +kernel
theorem dX8_value_6 : decode cX8_value 6 = .ok (.if_icmp .gt 12, 3) := by decide +kernel
theorem dX8_value_9 : decode cX8_value 9 = .ok (.aload_n 0, 1) := by decide +kernel
theorem dX8_value_10 : decode cX8_value 10 = .ok (.getfield 79, 3) := by decide +kernel
theorem dX8_value_13 : decode cX8_value 13 = .ok (.bipush 24, 2) := by decide +kernel
theorem dX8_value_15 : decode cX8_value 15 = .ok (.if_icmp .ne 5, 3) := by decide +kernel
theorem dX8_value_18 : decode cX8_value 18 = .ok (.iconst (-1), 1) := by decide +kernel
theorem dX8_value_19 : decode cX8_value 19 = .ok (.ireturn, 1) := by decide +kernel
theorem dX8_value_20 : decode cX8_value 20 = .ok (.aload_n 0, 1) := by decide +kernel
theorem dX8_value_21 : decode cX8_value 21 = .ok (.getfield 7, 3) := by decide +kernel
theorem dX8_value_24 : decode cX8_value 24 = .ok (.aload_n 0, 1) := by decide +kernel
theorem dX8_value_25 : decode cX8_value 25 = .ok (.getfield 79, 3) := by decide +kernel
theorem dX8_value_28 : decode cX8_value 28 = .ok (.iload_n 1, 1) := by decide +kernel
theorem dX8_value_29 : decode cX8_value 29 = .ok (.iastore, 1) := by decide +kernel
theorem dX8_value_30 : decode cX8_value 30 = .ok (.aload_n 0, 1) := by decide +kernel
theorem dX8_value_31 : decode cX8_value 31 = .ok (.dup, 1) := by decide +kernel
theorem dX8_value_32 : decode cX8_value 32 = .ok (.getfield 79, 3) := by decide +kernel
theorem dX8_value_35 : decode cX8_value 35 = .ok (.iconst 1, 1) := by decide +kernel
theorem dX8_value_36 : decode cX8_value 36 = .ok (.iadd, 1) := by decide +kernel
theorem dX8_value_37 : decode cX8_value 37 = .ok (.putfield 79, 3) := by decide +kernel
theorem dX8_value_40 : decode cX8_value 40 = .ok (.aload_n 0, 1) := by decide +kernel
theorem dX8_value_41 : decode cX8_value 41 = .ok (.getfield 79, 3) := by decide +kernel
theorem dX8_value_44 : decode cX8_value 44 = .ok (.iconst 1, 1) := by decide +kernel
theorem dX8_value_45 : decode cX8_value 45 = .ok (.isub, 1) := by decide +kernel
theorem dX8_value_46 : decode cX8_value 46 = .ok (.ireturn, 1) := by decide +kernel
theorem dX8_isValue_0 : decode cX8_isValue 0 = .ok (.iload_n 1, 1) := by decide +kernel
theorem dX8_isValue_1 : decode cX8_isValue 1 = .ok (.ifCond .lt 15, 3) := by decide +kernel
theorem dX8_isValue_4 : decode cX8_isValue 4 = .ok (.iload_n 1, 1) := by decide +kernel
theorem dX8_isValue_5 : decode cX8_isValue 5 = .ok (.aload_n 0, 1) := by decide +kernel
theorem dX8_isValue_6 : decode cX8_isValue 6 = .ok (.getfield 79, 3) := by decide +kernel
theorem dX8_isValue_9 : decode cX8_isValue 9 = .ok (.if_icmp .ge 7, 3) := by decide +kernel
theorem dX8_isValue_12 : decode cX8_isValue 12 = .ok (.iconst 1, 1) := by decide +kernel
theorem dX8_isValue_13 : decode cX8_isValue 13 = .ok (.goto 4, 3) := by decide +kernel
theorem dX8_isValue_16 : decode cX8_isValue 16 = .ok (.iconst 0, 1) := by decide +kernel
theorem dX8_isValue_17 : decode cX8_isValue 17 = .ok (.ireturn, 1) := by decide +kernel
theorem dX8_isOf_0 : decode cX8_isOf 0 = .ok (.aload_n 0, 1) := by decide +kernel
theorem dX8_isOf_1 : decode cX8_isOf 1 = .ok (.iload_n 1, 1) := by decide +kernel
theorem dX8_isOf_2 : decode cX8_isOf 2 = .ok (.invokevirtual 83, 3) := by decide +kernel
theorem dX8_isOf_5 : decode cX8_isOf 5 = .ok (.ifCond .eq 17, 3) := by decide +kernel
theorem dX8_isOf_8 : decode cX8_isOf 8 = .ok (.aload_n 0, 1) := by decide +kernel
theorem dX8_isOf_9 : decode cX8_isOf 9 = .ok (.getfield 7, 3) := by decide +kernel
theorem dX8_isOf_12 : decode cX8_isOf 12 = .ok (.iload_n 1, 1) := by decide +kernel
theorem dX8_isOf_13 : decode cX8_isOf 13 = .ok (.iaload, 1) := by decide +kernel
theorem dX8_isOf_14 : decode cX8_isOf 14 = .ok (.iload_n 2, 1) := by decide +kernel
theorem dX8_isOf_15 : decode cX8_isOf 15 = .ok (.if_icmp .ne 7, 3) := by decide +kernel
theorem dX8_isOf_18 : decode cX8_isOf 18 = .ok (.iconst 1, 1) := by decide +kernel
theorem dX8_isOf_19 : decode cX8_isOf 19 = .ok (.goto 4, 3) := by decide +kernel
theorem dX8_isOf_22 : decode cX8_isOf 22 = .ok (.iconst 0, 1) := by decide +kernel
theorem dX8_isOf_23 : decode cX8_isOf 23 = .ok (.ireturn, 1) := by decide +kernel
theorem dX8_mayBe_0 : decode cX8_mayBe 0 = .ok (.iload_n 1, 1) := by decide +kernel
theorem dX8_mayBe_1 : decode cX8_mayBe 1 = .ok (.tableswitch 233 0 9 #[55, 61, 83, 83, 114, 148, 148, 183, 217, 55], 55) := by decide +kernel
theorem dX8_mayBe_56 : decode cX8_mayBe 56 = .ok (.aload_n 0, 1) := by decide +kernel
theorem dX8_mayBe_57 : decode cX8_mayBe 57 = .ok (.iload_n 2, 1) := by decide +kernel
theorem dX8_mayBe_58 : decode cX8_mayBe 58 = .ok (.invokevirtual 83, 3) := by decide +kernel
theorem dX8_mayBe_61 : decode cX8_mayBe 61 = .ok (.ireturn, 1) := by decide +kernel
theorem dX8_mayBe_62 : decode cX8_mayBe 62 = .ok (.aload_n 0, 1) := by decide +kernel
theorem dX8_mayBe_63 : decode cX8_mayBe 63 = .ok (.iload_n 2, 1) := by decide +kernel
theorem dX8_mayBe_64 : decode cX8_mayBe 64 = .ok (.invokevirtual 83, 3) := by decide +kernel
theorem dX8_mayBe_67 : decode cX8_mayBe 67 = .ok (.ifCond .eq 15, 3) := by decide +kernel
theorem dX8_mayBe_70 : decode cX8_mayBe 70 = .ok (.aload_n 0, 1) := by decide +kernel
theorem dX8_mayBe_71 : decode cX8_mayBe 71 = .ok (.iload_n 3, 1) := by decide +kernel
theorem dX8_mayBe_72 : decode cX8_mayBe 72 = .ok (.invokevirtual 83, 3) := by decide +kernel
theorem dX8_mayBe_75 : decode cX8_mayBe 75 = .ok (.ifCond .eq 7, 3) := by decide +kernel
theorem dX8_mayBe_78 : decode cX8_mayBe 78 = .ok (.iconst 1, 1) := by decide +kernel
theorem dX8_mayBe_79 : decode cX8_mayBe 79 = .ok (.goto 4, 3) := by decide +kernel
theorem dX8_mayBe_82 : decode cX8_mayBe 82 = .ok (.iconst 0, 1) := by decide +kernel
theorem dX8_mayBe_83 : decode cX8_mayBe 83 = .ok (.ireturn, 1) := by decide +kernel
theorem dX8_mayBe_84 : decode cX8_mayBe 84 = .ok (.aload_n 0, 1) := by decide +kernel
theorem dX8_mayBe_85 : decode cX8_mayBe 85 = .ok (.iload_n 2, 1) := by decide +kernel
theorem dX8_mayBe_86 : decode cX8_mayBe 86 = .ok (.invokevirtual 83, 3) := by decide +kernel
theorem dX8_mayBe_89 : decode cX8_mayBe 89 = .ok (.ifCond .eq 24, 3) := by decide +kernel
theorem dX8_mayBe_92 : decode cX8_mayBe 92 = .ok (.aload_n 0, 1) := by decide +kernel
theorem dX8_mayBe_93 : decode cX8_mayBe 93 = .ok (.iload_n 3, 1) := by decide +kernel
theorem dX8_mayBe_94 : decode cX8_mayBe 94 = .ok (.invokevirtual 83, 3) := by decide +kernel
theorem dX8_mayBe_97 : decode cX8_mayBe 97 = .ok (.ifCond .eq 16, 3) := by decide +kernel
theorem dX8_mayBe_100 : decode cX8_mayBe 100 = .ok (.aload_n 0, 1) := by decide +kernel
theorem dX8_mayBe_101 : decode cX8_mayBe 101 = .ok (.iload 4, 2) := by decide +kernel
theorem dX8_mayBe_103 : decode cX8_mayBe 103 = .ok (.invokevirtual 83, 3) := by decide +kernel
theorem dX8_mayBe_106 : decode cX8_mayBe 106 = .ok (.ifCond .eq 7, 3) := by decide +kernel
theorem dX8_mayBe_109 : decode cX8_mayBe 109 = .ok (.iconst 1, 1) := by decide +kernel
theorem dX8_mayBe_110 : decode cX8_mayBe 110 = .ok (.goto 4, 3) := by decide +kernel
theorem dX8_mayBe_113 : decode cX8_mayBe 113 = .ok (.iconst 0, 1) := by decide +kernel
theorem dX8_mayBe_114 : decode cX8_mayBe 114 = .ok (.ireturn, 1) := by decide +kernel
theorem dX8_mayBe_115 : decode cX8_mayBe 115 = .ok (.aload_n 0, 1) := by decide +kernel
theorem dX8_mayBe_116 : decode cX8_mayBe 116 = .ok (.iload_n 2, 1) := by decide +kernel
theorem dX8_mayBe_117 : decode cX8_mayBe 117 = .ok (.iconst 0, 1) := by decide +kernel
theorem dX8_mayBe_118 : decode cX8_mayBe 118 = .ok (.invokevirtual 87, 3) := by decide +kernel
theorem dX8_mayBe_121 : decode cX8_mayBe 121 = .ok (.ifCond .eq 26, 3) := by decide +kernel
theorem dX8_mayBe_124 : decode cX8_mayBe 124 = .ok (.aload_n 0, 1) := by decide +kernel
theorem dX8_mayBe_125 : decode cX8_mayBe 125 = .ok (.iload_n 3, 1) := by decide +kernel
theorem dX8_mayBe_126 : decode cX8_mayBe 126 = .ok (.iconst 0, 1) := by decide +kernel
theorem dX8_mayBe_127 : decode cX8_mayBe 127 = .ok (.invokevirtual 87, 3) := by decide +kernel
theorem dX8_mayBe_130 : decode cX8_mayBe 130 = .ok (.ifCond .eq 17, 3) := by decide +kernel
theorem dX8_mayBe_133 : decode cX8_mayBe 133 = .ok (.aload_n 0, 1) := by decide +kernel
theorem dX8_mayBe_134 : decode cX8_mayBe 134 = .ok (.iload 4, 2) := by decide +kernel
theorem dX8_mayBe_136 : decode cX8_mayBe 136 = .ok (.iconst 0, 1) := by decide +kernel
theorem dX8_mayBe_137 : decode cX8_mayBe 137 = .ok (.invokevirtual 87, 3) := by decide +kernel
theorem dX8_mayBe_140 : decode cX8_mayBe 140 = .ok (.ifCond .eq 7, 3) := by decide +kernel
theorem dX8_mayBe_143 : decode cX8_mayBe 143 = .ok (.iconst 1, 1) := by decide +kernel
theorem dX8_mayBe_144 : decode cX8_mayBe 144 = .ok (.goto 4, 3) := by decide +kernel
theorem dX8_mayBe_147 : decode cX8_mayBe 147 = .ok (.iconst 0, 1) := by decide +kernel
theorem dX8_mayBe_148 : decode cX8_mayBe 148 = .ok (.ireturn, 1) := by decide +kernel
theorem dX8_mayBe_149 : decode cX8_mayBe 149 = .ok (.aload_n 0, 1) := by decide +kernel
theorem dX8_mayBe_150 : decode cX8_mayBe 150 = .ok (.iload_n 2, 1) := by decide +kernel
theorem dX8_mayBe_151 : decode cX8_mayBe 151 = .ok (.invokevirtual 83, 3) := by decide +kernel
theorem dX8_mayBe_154 : decode cX8_mayBe 154 = .ok (.ifCond .eq 28, 3) := by decide +kernel
theorem dX8_mayBe_157 : decode cX8_mayBe 157 = .ok (.aload_n 0, 1) := by decide +kernel
theorem dX8_mayBe_158 : decode cX8_mayBe 158 = .ok (.iload_n 3, 1) := by decide +kernel
theorem dX8_mayBe_159 : decode cX8_mayBe 159 = .ok (.iconst 1, 1) := by decide +kernel
theorem dX8_mayBe_160 : decode cX8_mayBe 160 = .ok (.invokevirtual 87, 3) := by decide +kernel
theorem dX8_mayBe_163 : decode cX8_mayBe 163 = .ok (.ifCond .eq 19, 3) := by decide +kernel
theorem dX8_mayBe_166 : decode cX8_mayBe 166 = .ok (.iload 4, 2) := by decide +kernel
theorem dX8_mayBe_168 : decode cX8_mayBe 168 = .ok (.ifCond .lt 14, 3) := by decide +kernel
theorem dX8_mayBe_171 : decode cX8_mayBe 171 = .ok (.iload 4, 2) := by decide +kernel
theorem dX8_mayBe_173 : decode cX8_mayBe 173 = .ok (.bipush 64, 2) := by decide +kernel
theorem dX8_mayBe_175 : decode cX8_mayBe 175 = .ok (.if_icmp .ge 7, 3) := by decide +kernel
theorem dX8_mayBe_178 : decode cX8_mayBe 178 = .ok (.iconst 1, 1) := by decide +kernel
theorem dX8_mayBe_179 : decode cX8_mayBe 179 = .ok (.goto 4, 3) := by decide +kernel
theorem dX8_mayBe_182 : decode cX8_mayBe 182 = .ok (.iconst 0, 1) := by decide +kernel
theorem dX8_mayBe_183 : decode cX8_mayBe 183 = .ok (.ireturn, 1) := by decide +kernel
theorem dX8_mayBe_184 : decode cX8_mayBe 184 = .ok (.aload_n 0, 1) := by decide +kernel
theorem dX8_mayBe_185 : decode cX8_mayBe 185 = .ok (.iload_n 2, 1) := by decide +kernel
theorem dX8_mayBe_186 : decode cX8_mayBe 186 = .ok (.invokevirtual 83, 3) := by decide +kernel
theorem dX8_mayBe_189 : decode cX8_mayBe 189 = .ok (.ifCond .eq 27, 3) := by decide +kernel
theorem dX8_mayBe_192 : decode cX8_mayBe 192 = .ok (.aload_n 0, 1) := by decide +kernel
theorem dX8_mayBe_193 : decode cX8_mayBe 193 = .ok (.iload_n 3, 1) := by decide +kernel
theorem dX8_mayBe_194 : decode cX8_mayBe 194 = .ok (.invokevirtual 83, 3) := by decide +kernel
theorem dX8_mayBe_197 : decode cX8_mayBe 197 = .ok (.ifCond .eq 19, 3) := by decide +kernel
theorem dX8_mayBe_200 : decode cX8_mayBe 200 = .ok (.iload 4, 2) := by decide +kernel
theorem dX8_mayBe_202 : decode cX8_mayBe 202 = .ok (.ifCond .lt 14, 3) := by decide +kernel
theorem dX8_mayBe_205 : decode cX8_mayBe 205 = .ok (.iload 4, 2) := by decide +kernel
theorem dX8_mayBe_207 : decode cX8_mayBe 207 = .ok (.bipush 60, 2) := by decide +kernel
theorem dX8_mayBe_209 : decode cX8_mayBe 209 = .ok (.if_icmp .gt 7, 3) := by decide +kernel
theorem dX8_mayBe_212 : decode cX8_mayBe 212 = .ok (.iconst 1, 1) := by decide +kernel
theorem dX8_mayBe_213 : decode cX8_mayBe 213 = .ok (.goto 4, 3) := by decide +kernel
theorem dX8_mayBe_216 : decode cX8_mayBe 216 = .ok (.iconst 0, 1) := by decide +kernel
theorem dX8_mayBe_217 : decode cX8_mayBe 217 = .ok (.ireturn, 1) := by decide +kernel
theorem dX8_mayBe_218 : decode cX8_mayBe 218 = .ok (.iload_n 2, 1) := by decide +kernel
theorem dX8_mayBe_219 : decode cX8_mayBe 219 = .ok (.ifCond .lt 13, 3) := by decide +kernel
theorem dX8_mayBe_222 : decode cX8_mayBe 222 = .ok (.iload_n 2, 1) := by decide +kernel
theorem dX8_mayBe_223 : decode cX8_mayBe 223 = .ok (.bipush 60, 2) := by decide +kernel
theorem dX8_mayBe_225 : decode cX8_mayBe 225 = .ok (.if_icmp .gt 7, 3) := by decide +kernel
theorem dX8_mayBe_228 : decode cX8_mayBe 228 = .ok (.iconst 1, 1) := by decide +kernel
theorem dX8_mayBe_229 : decode cX8_mayBe 229 = .ok (.goto 4, 3) := by decide +kernel
theorem dX8_mayBe_232 : decode cX8_mayBe 232 = .ok (.iconst 0, 1) := by decide +kernel
theorem dX8_mayBe_233 : decode cX8_mayBe 233 = .ok (.ireturn, 1) := by decide +kernel
theorem dX8_mayBe_234 : decode cX8_mayBe 234 = .ok (.iload_n 1, 1) := by decide +kernel
theorem dX8_mayBe_235 : decode cX8_mayBe 235 = .ok (.bipush 10, 2) := by decide +kernel
theorem dX8_mayBe_237 : decode cX8_mayBe 237 = .ok (.if_icmp .ne 7, 3) := by decide +kernel
theorem dX8_mayBe_240 : decode cX8_mayBe 240 = .ok (.iconst 1, 1) := by decide +kernel
theorem dX8_mayBe_241 : decode cX8_mayBe 241 = .ok (.goto 4, 3) := by decide +kernel
theorem dX8_mayBe_244 : decode cX8_mayBe 244 = .ok (.iconst 0, 1) := by decide +kernel
theorem dX8_mayBe_245 : decode cX8_mayBe 245 = .ok (.ireturn, 1) := by decide +kernel
theorem dX8_put_0 : decode cX8_put 0 = .ok (.aload_n 0, 1) := by decide +kernel
theorem dX8_put_1 : decode cX8_put 1 = .ok (.iload_n 1, 1) := by decide +kernel
theorem dX8_put_2 : decode cX8_put 2 = .ok (.iload_n 2, 1) := by decide +kernel
theorem dX8_put_3 : decode cX8_put 3 = .ok (.iload_n 3, 1) := by decide +kernel
theorem dX8_put_4 : decode cX8_put 4 = .ok (.iload 4, 2) := by decide +kernel
theorem dX8_put_6 : decode cX8_put 6 = .ok (.invokevirtual 91, 3) := by decide +kernel
theorem dX8_put_9 : decode cX8_put 9 = .ok (.ifCond .eq 12, 3) := by decide +kernel
theorem dX8_put_12 : decode cX8_put 12 = .ok (.aload_n 0, 1) := by decide +kernel
theorem dX8_put_13 : decode cX8_put 13 = .ok (.getfield 95, 3) := by decide +kernel
theorem dX8_put_16 : decode cX8_put 16 = .ok (.bipush 60, 2) := by decide +kernel
theorem dX8_put_18 : decode cX8_put 18 = .ok (.if_icmp .ne 5, 3) := by decide +kernel
theorem dX8_put_21 : decode cX8_put 21 = .ok (.iconst (-1), 1) := by decide +kernel
theorem dX8_put_22 : decode cX8_put 22 = .ok (.ireturn, 1) := by decide +kernel
theorem dX8_put_23 : decode cX8_put 23 = .ok (.aload_n 0, 1) := by decide +kernel
theorem dX8_put_24 : decode cX8_put 24 = .ok (.getfield 13, 3) := by decide +kernel
theorem dX8_put_27 : decode cX8_put 27 = .ok (.aload_n 0, 1) := by decide +kernel
theorem dX8_put_28 : decode cX8_put 28 = .ok (.getfield 95, 3) := by decide +kernel
theorem dX8_put_31 : decode cX8_put 31 = .ok (.iload_n 1, 1) := by decide +kernel
theorem dX8_put_32 : decode cX8_put 32 = .ok (.iastore, 1) := by decide +kernel
theorem dX8_put_33 : decode cX8_put 33 = .ok (.aload_n 0, 1) := by decide +kernel
theorem dX8_put_34 : decode cX8_put 34 = .ok (.getfield 16, 3) := by decide +kernel
theorem dX8_put_37 : decode cX8_put 37 = .ok (.aload_n 0, 1) := by decide +kernel
theorem dX8_put_38 : decode cX8_put 38 = .ok (.getfield 95, 3) := by decide +kernel
theorem dX8_put_41 : decode cX8_put 41 = .ok (.iload_n 2, 1) := by decide +kernel
theorem dX8_put_42 : decode cX8_put 42 = .ok (.iastore, 1) := by decide +kernel
theorem dX8_put_43 : decode cX8_put 43 = .ok (.aload_n 0, 1) := by decide +kernel
theorem dX8_put_44 : decode cX8_put 44 = .ok (.getfield 19, 3) := by decide +kernel
theorem dX8_put_47 : decode cX8_put 47 = .ok (.aload_n 0, 1) := by decide +kernel
theorem dX8_put_48 : decode cX8_put 48 = .ok (.getfield 95, 3) := by decide +kernel
theorem dX8_put_51 : decode cX8_put 51 = .ok (.iload_n 3, 1) := by decide +kernel
theorem dX8_put_52 : decode cX8_put 52 = .ok (.iastore, 1) := by decide +kernel
theorem dX8_put_53 : decode cX8_put 53 = .ok (.aload_n 0, 1) := by decide +kernel
theorem dX8_put_54 : decode cX8_put 54 = .ok (.getfield 22, 3) := by decide +kernel
theorem dX8_put_57 : decode cX8_put 57 = .ok (.aload_n 0, 1) := by decide +kernel
theorem dX8_put_58 : decode cX8_put 58 = .ok (.getfield 95, 3) := by decide +kernel
theorem dX8_put_61 : decode cX8_put 61 = .ok (.iload 4, 2) := by decide +kernel
theorem dX8_put_63 : decode cX8_put 63 = .ok (.iastore, 1) := by decide +kernel
theorem dX8_put_64 : decode cX8_put 64 = .ok (.aload_n 0, 1) := by decide +kernel
theorem dX8_put_65 : decode cX8_put 65 = .ok (.dup, 1) := by decide +kernel
theorem dX8_put_66 : decode cX8_put 66 = .ok (.getfield 95, 3) := by decide +kernel
theorem dX8_put_69 : decode cX8_put 69 = .ok (.iconst 1, 1) := by decide +kernel
theorem dX8_put_70 : decode cX8_put 70 = .ok (.iadd, 1) := by decide +kernel
theorem dX8_put_71 : decode cX8_put 71 = .ok (.putfield 95, 3) := by decide +kernel
theorem dX8_put_74 : decode cX8_put 74 = .ok (.aload_n 0, 1) := by decide +kernel
theorem dX8_put_75 : decode cX8_put 75 = .ok (.getfield 95, 3) := by decide +kernel
theorem dX8_put_78 : decode cX8_put 78 = .ok (.iconst 1, 1) := by decide +kernel
theorem dX8_put_79 : decode cX8_put 79 = .ok (.isub, 1) := by decide +kernel
theorem dX8_put_80 : decode cX8_put 80 = .ok (.ireturn, 1) := by decide +kernel
theorem dX8_clear_0 : decode cX8_clear 0 = .ok (.aload_n 0, 1) := by decide +kernel
theorem dX8_clear_1 : decode cX8_clear 1 = .ok (.getfield 95, 3) := by decide +kernel
theorem dX8_clear_4 : decode cX8_clear 4 = .ok (.istore_n 1, 1) := by decide +kernel
theorem dX8_clear_5 : decode cX8_clear 5 = .ok (.aload_n 0, 1) := by decide +kernel
theorem dX8_clear_6 : decode cX8_clear 6 = .ok (.iconst 0, 1) := by decide +kernel
theorem dX8_clear_7 : decode cX8_clear 7 = .ok (.putfield 95, 3) := by decide +kernel
theorem dX8_clear_10 : decode cX8_clear 10 = .ok (.iload_n 1, 1) := by decide +kernel
theorem dX8_clear_11 : decode cX8_clear 11 = .ok (.ireturn, 1) := by decide +kernel
theorem dX8_registers_0 : decode cX8_registers 0 = .ok (.iload_n 1, 1) := by decide +kernel
theorem dX8_registers_1 : decode cX8_registers 1 = .ok (.ifCond .lt 18, 3) := by decide +kernel
theorem dX8_registers_4 : decode cX8_registers 4 = .ok (.iload_n 1, 1) := by decide +kernel
theorem dX8_registers_5 : decode cX8_registers 5 = .ok (.iconst 1, 1) := by decide +kernel
theorem dX8_registers_6 : decode cX8_registers 6 = .ok (.if_icmp .gt 13, 3) := by decide +kernel
theorem dX8_registers_9 : decode cX8_registers 9 = .ok (.iload_n 2, 1) := by decide +kernel
theorem dX8_registers_10 : decode cX8_registers 10 = .ok (.ifCond .lt 9, 3) := by decide +kernel
theorem dX8_registers_13 : decode cX8_registers 13 = .ok (.iload_n 2, 1) := by decide +kernel
theorem dX8_registers_14 : decode cX8_registers 14 = .ok (.bipush 8, 2) := by decide +kernel
theorem dX8_registers_16 : decode cX8_registers 16 = .ok (.if_icmp .le 5, 3) := by decide +kernel
theorem dX8_registers_19 : decode cX8_registers 19 = .ok (.iconst 0, 1) := by decide +kernel
theorem dX8_registers_20 : decode cX8_registers 20 = .ok (.ireturn, 1) := by decide +kernel
theorem dX8_registers_21 : decode cX8_registers 21 = .ok (.aload_n 0, 1) := by decide +kernel
theorem dX8_registers_22 : decode cX8_registers 22 = .ok (.getfield 25, 3) := by decide +kernel
theorem dX8_registers_25 : decode cX8_registers 25 = .ok (.iload_n 1, 1) := by decide +kernel
theorem dX8_registers_26 : decode cX8_registers 26 = .ok (.iload_n 2, 1) := by decide +kernel
theorem dX8_registers_27 : decode cX8_registers 27 = .ok (.iastore, 1) := by decide +kernel
theorem dX8_registers_28 : decode cX8_registers 28 = .ok (.iconst 1, 1) := by decide +kernel
theorem dX8_registers_29 : decode cX8_registers 29 = .ok (.ireturn, 1) := by decide +kernel
theorem dX8_memory_0 : decode cX8_memory 0 = .ok (.iload_n 1, 1) := by decide +kernel
theorem dX8_memory_1 : decode cX8_memory 1 = .ok (.ifCond .lt 9, 3) := by decide +kernel
theorem dX8_memory_4 : decode cX8_memory 4 = .ok (.iload_n 1, 1) := by decide +kernel
theorem dX8_memory_5 : decode cX8_memory 5 = .ok (.bipush 64, 2) := by decide +kernel
theorem dX8_memory_7 : decode cX8_memory 7 = .ok (.if_icmp .lt 5, 3) := by decide +kernel
theorem dX8_memory_10 : decode cX8_memory 10 = .ok (.iconst 0, 1) := by decide +kernel
theorem dX8_memory_11 : decode cX8_memory 11 = .ok (.ireturn, 1) := by decide +kernel
theorem dX8_memory_12 : decode cX8_memory 12 = .ok (.aload_n 0, 1) := by decide +kernel
theorem dX8_memory_13 : decode cX8_memory 13 = .ok (.getfield 28, 3) := by decide +kernel
theorem dX8_memory_16 : decode cX8_memory 16 = .ok (.iload_n 1, 1) := by decide +kernel
theorem dX8_memory_17 : decode cX8_memory 17 = .ok (.iload_n 2, 1) := by decide +kernel
theorem dX8_memory_18 : decode cX8_memory 18 = .ok (.iastore, 1) := by decide +kernel
theorem dX8_memory_19 : decode cX8_memory 19 = .ok (.iconst 1, 1) := by decide +kernel
theorem dX8_memory_20 : decode cX8_memory 20 = .ok (.ireturn, 1) := by decide +kernel
theorem dX8_taken_0 : decode cX8_taken 0 = .ok (.aload_n 0, 1) := by decide +kernel
theorem dX8_taken_1 : decode cX8_taken 1 = .ok (.getfield 13, 3) := by decide +kernel
theorem dX8_taken_4 : decode cX8_taken 4 = .ok (.iload_n 1, 1) := by decide +kernel
theorem dX8_taken_5 : decode cX8_taken 5 = .ok (.iaload, 1) := by decide +kernel
theorem dX8_taken_6 : decode cX8_taken 6 = .ok (.istore_n 3, 1) := by decide +kernel
theorem dX8_taken_7 : decode cX8_taken 7 = .ok (.iload_n 3, 1) := by decide +kernel
theorem dX8_taken_8 : decode cX8_taken 8 = .ok (.iconst 1, 1) := by decide +kernel
theorem dX8_taken_9 : decode cX8_taken 9 = .ok (.if_icmp .eq 8, 3) := by decide +kernel
theorem dX8_taken_12 : decode cX8_taken 12 = .ok (.iload_n 3, 1) := by decide +kernel
theorem dX8_taken_13 : decode cX8_taken 13 = .ok (.iconst 5, 1) := by decide +kernel
theorem dX8_taken_14 : decode cX8_taken 14 = .ok (.if_icmp .ne 18, 3) := by decide +kernel
theorem dX8_taken_17 : decode cX8_taken 17 = .ok (.iload_n 2, 1) := by decide +kernel
theorem dX8_taken_18 : decode cX8_taken 18 = .ok (.ifCond .ne 12, 3) := by decide +kernel
theorem dX8_taken_21 : decode cX8_taken 21 = .ok (.aload_n 0, 1) := by decide +kernel
theorem dX8_taken_22 : decode cX8_taken 22 = .ok (.getfield 19, 3) := by decide +kernel
theorem dX8_taken_25 : decode cX8_taken 25 = .ok (.iload_n 1, 1) := by decide +kernel
theorem dX8_taken_26 : decode cX8_taken 26 = .ok (.iaload, 1) := by decide +kernel
theorem dX8_taken_27 : decode cX8_taken 27 = .ok (.goto 4, 3) := by decide +kernel
theorem dX8_taken_30 : decode cX8_taken 30 = .ok (.iconst (-1), 1) := by decide +kernel
theorem dX8_taken_31 : decode cX8_taken 31 = .ok (.ireturn, 1) := by decide +kernel
theorem dX8_taken_32 : decode cX8_taken 32 = .ok (.iload_n 3, 1) := by decide +kernel
theorem dX8_taken_33 : decode cX8_taken 33 = .ok (.iconst 1, 1) := by decide +kernel
theorem dX8_taken_34 : decode cX8_taken 34 = .ok (.if_icmp .le 37, 3) := by decide +kernel
theorem dX8_taken_37 : decode cX8_taken 37 = .ok (.iload_n 3, 1) := by decide +kernel
theorem dX8_taken_38 : decode cX8_taken 38 = .ok (.iconst 5, 1) := by decide +kernel
theorem dX8_taken_39 : decode cX8_taken 39 = .ok (.if_icmp .ge 32, 3) := by decide +kernel
theorem dX8_taken_42 : decode cX8_taken 42 = .ok (.iload_n 2, 1) := by decide +kernel
theorem dX8_taken_43 : decode cX8_taken 43 = .ok (.ifCond .ne 12, 3) := by decide +kernel
theorem dX8_taken_46 : decode cX8_taken 46 = .ok (.aload_n 0, 1) := by decide +kernel
theorem dX8_taken_47 : decode cX8_taken 47 = .ok (.getfield 19, 3) := by decide +kernel
theorem dX8_taken_50 : decode cX8_taken 50 = .ok (.iload_n 1, 1) := by decide +kernel
theorem dX8_taken_51 : decode cX8_taken 51 = .ok (.iaload, 1) := by decide +kernel
theorem dX8_taken_52 : decode cX8_taken 52 = .ok (.goto 18, 3) := by decide +kernel
theorem dX8_taken_55 : decode cX8_taken 55 = .ok (.iload_n 2, 1) := by decide +kernel
theorem dX8_taken_56 : decode cX8_taken 56 = .ok (.iconst 1, 1) := by decide +kernel
theorem dX8_taken_57 : decode cX8_taken 57 = .ok (.if_icmp .ne 12, 3) := by decide +kernel
theorem dX8_taken_60 : decode cX8_taken 60 = .ok (.aload_n 0, 1) := by decide +kernel
theorem dX8_taken_61 : decode cX8_taken 61 = .ok (.getfield 22, 3) := by decide +kernel
theorem dX8_taken_64 : decode cX8_taken 64 = .ok (.iload_n 1, 1) := by decide +kernel
theorem dX8_taken_65 : decode cX8_taken 65 = .ok (.iaload, 1) := by decide +kernel
theorem dX8_taken_66 : decode cX8_taken 66 = .ok (.goto 4, 3) := by decide +kernel
theorem dX8_taken_69 : decode cX8_taken 69 = .ok (.iconst (-1), 1) := by decide +kernel
theorem dX8_taken_70 : decode cX8_taken 70 = .ok (.ireturn, 1) := by decide +kernel
theorem dX8_taken_71 : decode cX8_taken 71 = .ok (.iload_n 3, 1) := by decide +kernel
theorem dX8_taken_72 : decode cX8_taken 72 = .ok (.bipush 6, 2) := by decide +kernel
theorem dX8_taken_74 : decode cX8_taken 74 = .ok (.if_icmp .eq 9, 3) := by decide +kernel
theorem dX8_taken_77 : decode cX8_taken 77 = .ok (.iload_n 3, 1) := by decide +kernel
theorem dX8_taken_78 : decode cX8_taken 78 = .ok (.bipush 7, 2) := by decide +kernel
theorem dX8_taken_80 : decode cX8_taken 80 = .ok (.if_icmp .ne 32, 3) := by decide +kernel
theorem dX8_taken_83 : decode cX8_taken 83 = .ok (.iload_n 2, 1) := by decide +kernel
theorem dX8_taken_84 : decode cX8_taken 84 = .ok (.ifCond .ne 12, 3) := by decide +kernel
theorem dX8_taken_87 : decode cX8_taken 87 = .ok (.aload_n 0, 1) := by decide +kernel
theorem dX8_taken_88 : decode cX8_taken 88 = .ok (.getfield 16, 3) := by decide +kernel
theorem dX8_taken_91 : decode cX8_taken 91 = .ok (.iload_n 1, 1) := by decide +kernel
theorem dX8_taken_92 : decode cX8_taken 92 = .ok (.iaload, 1) := by decide +kernel
theorem dX8_taken_93 : decode cX8_taken 93 = .ok (.goto 18, 3) := by decide +kernel
theorem dX8_taken_96 : decode cX8_taken 96 = .ok (.iload_n 2, 1) := by decide +kernel
theorem dX8_taken_97 : decode cX8_taken 97 = .ok (.iconst 1, 1) := by decide +kernel
theorem dX8_taken_98 : decode cX8_taken 98 = .ok (.if_icmp .ne 12, 3) := by decide +kernel
theorem dX8_taken_101 : decode cX8_taken 101 = .ok (.aload_n 0, 1) := by decide +kernel
theorem dX8_taken_102 : decode cX8_taken 102 = .ok (.getfield 19, 3) := by decide +kernel
theorem dX8_taken_105 : decode cX8_taken 105 = .ok (.iload_n 1, 1) := by decide +kernel
theorem dX8_taken_106 : decode cX8_taken 106 = .ok (.iaload, 1) := by decide +kernel
theorem dX8_taken_107 : decode cX8_taken 107 = .ok (.goto 4, 3) := by decide +kernel
theorem dX8_taken_110 : decode cX8_taken 110 = .ok (.iconst (-1), 1) := by decide +kernel
theorem dX8_taken_111 : decode cX8_taken 111 = .ok (.ireturn, 1) := by decide +kernel
theorem dX8_taken_112 : decode cX8_taken 112 = .ok (.iload_n 3, 1) := by decide +kernel
theorem dX8_taken_113 : decode cX8_taken 113 = .ok (.bipush 9, 2) := by decide +kernel
theorem dX8_taken_115 : decode cX8_taken 115 = .ok (.if_icmp .ne 16, 3) := by decide +kernel
theorem dX8_taken_118 : decode cX8_taken 118 = .ok (.iload_n 2, 1) := by decide +kernel
theorem dX8_taken_119 : decode cX8_taken 119 = .ok (.ifCond .ne 12, 3) := by decide +kernel
theorem dX8_taken_122 : decode cX8_taken 122 = .ok (.aload_n 0, 1) := by decide +kernel
theorem dX8_taken_123 : decode cX8_taken 123 = .ok (.getfield 16, 3) := by decide +kernel
theorem dX8_taken_126 : decode cX8_taken 126 = .ok (.iload_n 1, 1) := by decide +kernel
theorem dX8_taken_127 : decode cX8_taken 127 = .ok (.iaload, 1) := by decide +kernel
theorem dX8_taken_128 : decode cX8_taken 128 = .ok (.goto 4, 3) := by decide +kernel
theorem dX8_taken_131 : decode cX8_taken 131 = .ok (.iconst (-1), 1) := by decide +kernel
theorem dX8_taken_132 : decode cX8_taken 132 = .ok (.ireturn, 1) := by decide +kernel
theorem dX8_anew_0 : decode cX8_anew 0 = .ok (.aload_n 0, 1) := by decide +kernel
theorem dX8_anew_1 : decode cX8_anew 1 = .ok (.getfield 13, 3) := by decide +kernel
theorem dX8_anew_4 : decode cX8_anew 4 = .ok (.iload_n 1, 1) := by decide +kernel
theorem dX8_anew_5 : decode cX8_anew 5 = .ok (.iaload, 1) := by decide +kernel
theorem dX8_anew_6 : decode cX8_anew 6 = .ok (.bipush 6, 2) := by decide +kernel
theorem dX8_anew_8 : decode cX8_anew 8 = .ok (.if_icmp .ge 12, 3) := by decide +kernel
theorem dX8_anew_11 : decode cX8_anew 11 = .ok (.aload_n 0, 1) := by decide +kernel
theorem dX8_anew_12 : decode cX8_anew 12 = .ok (.getfield 16, 3) := by decide +kernel
theorem dX8_anew_15 : decode cX8_anew 15 = .ok (.iload_n 1, 1) := by decide +kernel
theorem dX8_anew_16 : decode cX8_anew 16 = .ok (.iaload, 1) := by decide +kernel
theorem dX8_anew_17 : decode cX8_anew 17 = .ok (.goto 4, 3) := by decide +kernel
theorem dX8_anew_20 : decode cX8_anew 20 = .ok (.iconst (-1), 1) := by decide +kernel
theorem dX8_anew_21 : decode cX8_anew 21 = .ok (.ireturn, 1) := by decide +kernel
theorem dX8_taking_0 : decode cX8_taking 0 = .ok (.iconst 0, 1) := by decide +kernel
theorem dX8_taking_1 : decode cX8_taking 1 = .ok (.istore_n 2, 1) := by decide +kernel
theorem dX8_taking_2 : decode cX8_taking 2 = .ok (.iconst 0, 1) := by decide +kernel
theorem dX8_taking_3 : decode cX8_taking 3 = .ok (.istore_n 3, 1) := by decide +kernel
theorem dX8_taking_4 : decode cX8_taking 4 = .ok (.iload_n 3, 1) := by decide +kernel
theorem dX8_taking_5 : decode cX8_taking 5 = .ok (.iconst 2, 1) := by decide +kernel
theorem dX8_taking_6 : decode cX8_taking 6 = .ok (.if_icmp .ge 34, 3) := by decide +kernel
theorem dX8_taking_9 : decode cX8_taking 9 = .ok (.aload_n 0, 1) := by decide +kernel
theorem dX8_taking_10 : decode cX8_taking 10 = .ok (.iload_n 1, 1) := by decide +kernel
theorem dX8_taking_11 : decode cX8_taking 11 = .ok (.iload_n 3, 1) := by decide +kernel
theorem dX8_taking_12 : decode cX8_taking 12 = .ok (.invokevirtual 98, 3) := by decide +kernel
theorem dX8_taking_15 : decode cX8_taking 15 = .ok (.istore 4, 2) := by decide +kernel
theorem dX8_taking_17 : decode cX8_taking 17 = .ok (.iload_n 2, 1) := by decide +kernel
theorem dX8_taking_18 : decode cX8_taking 18 = .ok (.iload 4, 2) := by decide +kernel
theorem dX8_taking_20 : decode cX8_taking 20 = .ok (.iconst (-1), 1) := by decide +kernel
theorem dX8_taking_21 : decode cX8_taking 21 = .ok (.if_icmp .ne 7, 3) := by decide +kernel
theorem dX8_taking_24 : decode cX8_taking 24 = .ok (.iconst 0, 1) := by decide +kernel
theorem dX8_taking_25 : decode cX8_taking 25 = .ok (.goto 7, 3) := by decide +kernel
theorem dX8_taking_28 : decode cX8_taking 28 = .ok (.iconst 1, 1) := by decide +kernel
theorem dX8_taking_29 : decode cX8_taking 29 = .ok (.iload 4, 2) := by decide +kernel
theorem dX8_taking_31 : decode cX8_taking 31 = .ok (.ishl, 1) := by decide +kernel
theorem dX8_taking_32 : decode cX8_taking 32 = .ok (.ior, 1) := by decide +kernel
theorem dX8_taking_33 : decode cX8_taking 33 = .ok (.istore_n 2, 1) := by decide +kernel
theorem dX8_taking_34 : decode cX8_taking 34 = .ok (.iinc 3 1, 3) := by decide +kernel
theorem dX8_taking_37 : decode cX8_taking 37 = .ok (.goto (-33), 3) := by decide +kernel
theorem dX8_taking_40 : decode cX8_taking 40 = .ok (.iload_n 2, 1) := by decide +kernel
theorem dX8_taking_41 : decode cX8_taking 41 = .ok (.ireturn, 1) := by decide +kernel
theorem dX8_liveAt_0 : decode cX8_liveAt 0 = .ok (.iload_n 1, 1) := by decide +kernel
theorem dX8_liveAt_1 : decode cX8_liveAt 1 = .ok (.aload_n 0, 1) := by decide +kernel
theorem dX8_liveAt_2 : decode cX8_liveAt 2 = .ok (.getfield 95, 3) := by decide +kernel
theorem dX8_liveAt_5 : decode cX8_liveAt 5 = .ok (.if_icmp .ge 12, 3) := by decide +kernel
theorem dX8_liveAt_8 : decode cX8_liveAt 8 = .ok (.aload_n 0, 1) := by decide +kernel
theorem dX8_liveAt_9 : decode cX8_liveAt 9 = .ok (.getfield 31, 3) := by decide +kernel
theorem dX8_liveAt_12 : decode cX8_liveAt 12 = .ok (.iload_n 1, 1) := by decide +kernel
theorem dX8_liveAt_13 : decode cX8_liveAt 13 = .ok (.iaload, 1) := by decide +kernel
theorem dX8_liveAt_14 : decode cX8_liveAt 14 = .ok (.goto 4, 3) := by decide +kernel
theorem dX8_liveAt_17 : decode cX8_liveAt 17 = .ok (.iconst 0, 1) := by decide +kernel
theorem dX8_liveAt_18 : decode cX8_liveAt 18 = .ok (.ireturn, 1) := by decide +kernel
theorem dX8_flow_0 : decode cX8_flow 0 = .ok (.iconst 0, 1) := by decide +kernel
theorem dX8_flow_1 : decode cX8_flow 1 = .ok (.istore_n 1, 1) := by decide +kernel
theorem dX8_flow_2 : decode cX8_flow 2 = .ok (.iload_n 1, 1) := by decide +kernel
theorem dX8_flow_3 : decode cX8_flow 3 = .ok (.aload_n 0, 1) := by decide +kernel
theorem dX8_flow_4 : decode cX8_flow 4 = .ok (.getfield 95, 3) := by decide +kernel
theorem dX8_flow_7 : decode cX8_flow 7 = .ok (.if_icmp .ge 23, 3) := by decide +kernel
theorem dX8_flow_10 : decode cX8_flow 10 = .ok (.aload_n 0, 1) := by decide +kernel
theorem dX8_flow_11 : decode cX8_flow 11 = .ok (.getfield 31, 3) := by decide +kernel
theorem dX8_flow_14 : decode cX8_flow 14 = .ok (.iload_n 1, 1) := by decide +kernel
theorem dX8_flow_15 : decode cX8_flow 15 = .ok (.iconst 0, 1) := by decide +kernel
theorem dX8_flow_16 : decode cX8_flow 16 = .ok (.iastore, 1) := by decide +kernel
theorem dX8_flow_17 : decode cX8_flow 17 = .ok (.aload_n 0, 1) := by decide +kernel
theorem dX8_flow_18 : decode cX8_flow 18 = .ok (.getfield 34, 3) := by decide +kernel
theorem dX8_flow_21 : decode cX8_flow 21 = .ok (.iload_n 1, 1) := by decide +kernel
theorem dX8_flow_22 : decode cX8_flow 22 = .ok (.iconst 0, 1) := by decide +kernel
theorem dX8_flow_23 : decode cX8_flow 23 = .ok (.iastore, 1) := by decide +kernel
theorem dX8_flow_24 : decode cX8_flow 24 = .ok (.iinc 1 1, 3) := by decide +kernel
theorem dX8_flow_27 : decode cX8_flow 27 = .ok (.goto (-25), 3) := by decide +kernel
theorem dX8_flow_30 : decode cX8_flow 30 = .ok (.iconst 1, 1) := by decide +kernel
theorem dX8_flow_31 : decode cX8_flow 31 = .ok (.istore_n 1, 1) := by decide +kernel
theorem dX8_flow_32 : decode cX8_flow 32 = .ok (.iload_n 1, 1) := by decide +kernel
theorem dX8_flow_33 : decode cX8_flow 33 = .ok (.ifCond .eq 178, 3) := by decide +kernel
theorem dX8_flow_36 : decode cX8_flow 36 = .ok (.iconst 0, 1) := by decide +kernel
theorem dX8_flow_37 : decode cX8_flow 37 = .ok (.istore_n 1, 1) := by decide +kernel
theorem dX8_flow_38 : decode cX8_flow 38 = .ok (.aload_n 0, 1) := by decide +kernel
theorem dX8_flow_39 : decode cX8_flow 39 = .ok (.getfield 95, 3) := by decide +kernel
theorem dX8_flow_42 : decode cX8_flow 42 = .ok (.iconst 1, 1) := by decide +kernel
theorem dX8_flow_43 : decode cX8_flow 43 = .ok (.isub, 1) := by decide +kernel
theorem dX8_flow_44 : decode cX8_flow 44 = .ok (.istore_n 2, 1) := by decide +kernel
theorem dX8_flow_45 : decode cX8_flow 45 = .ok (.iload_n 2, 1) := by decide +kernel
theorem dX8_flow_46 : decode cX8_flow 46 = .ok (.ifCond .lt 162, 3) := by decide +kernel
theorem dX8_flow_49 : decode cX8_flow 49 = .ok (.aload_n 0, 1) := by decide +kernel
theorem dX8_flow_50 : decode cX8_flow 50 = .ok (.getfield 13, 3) := by decide +kernel
theorem dX8_flow_53 : decode cX8_flow 53 = .ok (.iload_n 2, 1) := by decide +kernel
theorem dX8_flow_54 : decode cX8_flow 54 = .ok (.iaload, 1) := by decide +kernel
theorem dX8_flow_55 : decode cX8_flow 55 = .ok (.istore_n 3, 1) := by decide +kernel
theorem dX8_flow_56 : decode cX8_flow 56 = .ok (.iload_n 3, 1) := by decide +kernel
theorem dX8_flow_57 : decode cX8_flow 57 = .ok (.bipush 8, 2) := by decide +kernel
theorem dX8_flow_59 : decode cX8_flow 59 = .ok (.if_icmp .ne 16, 3) := by decide +kernel
theorem dX8_flow_62 : decode cX8_flow 62 = .ok (.aload_n 0, 1) := by decide +kernel
theorem dX8_flow_63 : decode cX8_flow 63 = .ok (.aload_n 0, 1) := by decide +kernel
theorem dX8_flow_64 : decode cX8_flow 64 = .ok (.getfield 16, 3) := by decide +kernel
theorem dX8_flow_67 : decode cX8_flow 67 = .ok (.iload_n 2, 1) := by decide +kernel
theorem dX8_flow_68 : decode cX8_flow 68 = .ok (.iaload, 1) := by decide +kernel
theorem dX8_flow_69 : decode cX8_flow 69 = .ok (.invokevirtual 102, 3) := by decide +kernel
theorem dX8_flow_72 : decode cX8_flow 72 = .ok (.goto 20, 3) := by decide +kernel
theorem dX8_flow_75 : decode cX8_flow 75 = .ok (.iload_n 3, 1) := by decide +kernel
theorem dX8_flow_76 : decode cX8_flow 76 = .ok (.bipush 10, 2) := by decide +kernel
theorem dX8_flow_78 : decode cX8_flow 78 = .ok (.if_icmp .ne 7, 3) := by decide +kernel
theorem dX8_flow_81 : decode cX8_flow 81 = .ok (.iconst 0, 1) := by decide +kernel
theorem dX8_flow_82 : decode cX8_flow 82 = .ok (.goto 10, 3) := by decide +kernel
theorem dX8_flow_85 : decode cX8_flow 85 = .ok (.aload_n 0, 1) := by decide +kernel
theorem dX8_flow_86 : decode cX8_flow 86 = .ok (.iload_n 2, 1) := by decide +kernel
theorem dX8_flow_87 : decode cX8_flow 87 = .ok (.iconst 1, 1) := by decide +kernel
theorem dX8_flow_88 : decode cX8_flow 88 = .ok (.iadd, 1) := by decide +kernel
theorem dX8_flow_89 : decode cX8_flow 89 = .ok (.invokevirtual 102, 3) := by decide +kernel
theorem dX8_flow_92 : decode cX8_flow 92 = .ok (.istore 4, 2) := by decide +kernel
theorem dX8_flow_94 : decode cX8_flow 94 = .ok (.iload 4, 2) := by decide +kernel
theorem dX8_flow_96 : decode cX8_flow 96 = .ok (.iload_n 3, 1) := by decide +kernel
theorem dX8_flow_97 : decode cX8_flow 97 = .ok (.bipush 7, 2) := by decide +kernel
theorem dX8_flow_99 : decode cX8_flow 99 = .ok (.if_icmp .ne 16, 3) := by decide +kernel
theorem dX8_flow_102 : decode cX8_flow 102 = .ok (.aload_n 0, 1) := by decide +kernel
theorem dX8_flow_103 : decode cX8_flow 103 = .ok (.aload_n 0, 1) := by decide +kernel
theorem dX8_flow_104 : decode cX8_flow 104 = .ok (.getfield 22, 3) := by decide +kernel
theorem dX8_flow_107 : decode cX8_flow 107 = .ok (.iload_n 2, 1) := by decide +kernel
theorem dX8_flow_108 : decode cX8_flow 108 = .ok (.iaload, 1) := by decide +kernel
theorem dX8_flow_109 : decode cX8_flow 109 = .ok (.invokevirtual 102, 3) := by decide +kernel
theorem dX8_flow_112 : decode cX8_flow 112 = .ok (.goto 4, 3) := by decide +kernel
theorem dX8_flow_115 : decode cX8_flow 115 = .ok (.iconst 0, 1) := by decide +kernel
theorem dX8_flow_116 : decode cX8_flow 116 = .ok (.ior, 1) := by decide +kernel
theorem dX8_flow_117 : decode cX8_flow 117 = .ok (.istore 4, 2) := by decide +kernel
theorem dX8_flow_119 : decode cX8_flow 119 = .ok (.aload_n 0, 1) := by decide +kernel
theorem dX8_flow_120 : decode cX8_flow 120 = .ok (.iload_n 2, 1) := by decide +kernel
theorem dX8_flow_121 : decode cX8_flow 121 = .ok (.invokevirtual 106, 3) := by decide +kernel
theorem dX8_flow_124 : decode cX8_flow 124 = .ok (.istore 5, 2) := by decide +kernel
theorem dX8_flow_126 : decode cX8_flow 126 = .ok (.aload_n 0, 1) := by decide +kernel
theorem dX8_flow_127 : decode cX8_flow 127 = .ok (.iload_n 2, 1) := by decide +kernel
theorem dX8_flow_128 : decode cX8_flow 128 = .ok (.invokevirtual 109, 3) := by decide +kernel
theorem dX8_flow_131 : decode cX8_flow 131 = .ok (.iload 5, 2) := by decide +kernel
theorem dX8_flow_133 : decode cX8_flow 133 = .ok (.iconst (-1), 1) := by decide +kernel
theorem dX8_flow_134 : decode cX8_flow 134 = .ok (.if_icmp .ne 8, 3) := by decide +kernel
theorem dX8_flow_137 : decode cX8_flow 137 = .ok (.iload 4, 2) := by decide +kernel
theorem dX8_flow_139 : decode cX8_flow 139 = .ok (.goto 12, 3) := by decide +kernel
theorem dX8_flow_142 : decode cX8_flow 142 = .ok (.iload 4, 2) := by decide +kernel
theorem dX8_flow_144 : decode cX8_flow 144 = .ok (.iconst 1, 1) := by decide +kernel
theorem dX8_flow_145 : decode cX8_flow 145 = .ok (.iload 5, 2) := by decide +kernel
theorem dX8_flow_147 : decode cX8_flow 147 = .ok (.ishl, 1) := by decide +kernel
theorem dX8_flow_148 : decode cX8_flow 148 = .ok (.iconst (-1), 1) := by decide +kernel
theorem dX8_flow_149 : decode cX8_flow 149 = .ok (.ixor, 1) := by decide +kernel
theorem dX8_flow_150 : decode cX8_flow 150 = .ok (.iand, 1) := by decide +kernel
theorem dX8_flow_151 : decode cX8_flow 151 = .ok (.ior, 1) := by decide +kernel
theorem dX8_flow_152 : decode cX8_flow 152 = .ok (.istore 6, 2) := by decide +kernel
theorem dX8_flow_154 : decode cX8_flow 154 = .ok (.iload_n 1, 1) := by decide +kernel
theorem dX8_flow_155 : decode cX8_flow 155 = .ok (.ifCond .ne 25, 3) := by decide +kernel
theorem dX8_flow_158 : decode cX8_flow 158 = .ok (.iload 6, 2) := by decide +kernel
theorem dX8_flow_160 : decode cX8_flow 160 = .ok (.aload_n 0, 1) := by decide +kernel
theorem dX8_flow_161 : decode cX8_flow 161 = .ok (.getfield 31, 3) := by decide +kernel
theorem dX8_flow_164 : decode cX8_flow 164 = .ok (.iload_n 2, 1) := by decide +kernel
theorem dX8_flow_165 : decode cX8_flow 165 = .ok (.iaload, 1) := by decide +kernel
theorem dX8_flow_166 : decode cX8_flow 166 = .ok (.if_icmp .ne 14, 3) := by decide +kernel
theorem dX8_flow_169 : decode cX8_flow 169 = .ok (.iload 4, 2) := by decide +kernel
theorem dX8_flow_171 : decode cX8_flow 171 = .ok (.aload_n 0, 1) := by decide +kernel
theorem dX8_flow_172 : decode cX8_flow 172 = .ok (.getfield 34, 3) := by decide +kernel
theorem dX8_flow_175 : decode cX8_flow 175 = .ok (.iload_n 2, 1) := by decide +kernel
theorem dX8_flow_176 : decode cX8_flow 176 = .ok (.iaload, 1) := by decide +kernel
theorem dX8_flow_177 : decode cX8_flow 177 = .ok (.if_icmp .eq 7, 3) := by decide +kernel
theorem dX8_flow_180 : decode cX8_flow 180 = .ok (.iconst 1, 1) := by decide +kernel
theorem dX8_flow_181 : decode cX8_flow 181 = .ok (.goto 4, 3) := by decide +kernel
theorem dX8_flow_184 : decode cX8_flow 184 = .ok (.iconst 0, 1) := by decide +kernel
theorem dX8_flow_185 : decode cX8_flow 185 = .ok (.istore_n 1, 1) := by decide +kernel
theorem dX8_flow_186 : decode cX8_flow 186 = .ok (.aload_n 0, 1) := by decide +kernel
theorem dX8_flow_187 : decode cX8_flow 187 = .ok (.getfield 31, 3) := by decide +kernel
theorem dX8_flow_190 : decode cX8_flow 190 = .ok (.iload_n 2, 1) := by decide +kernel
theorem dX8_flow_191 : decode cX8_flow 191 = .ok (.iload 6, 2) := by decide +kernel
theorem dX8_flow_193 : decode cX8_flow 193 = .ok (.iastore, 1) := by decide +kernel
theorem dX8_flow_194 : decode cX8_flow 194 = .ok (.aload_n 0, 1) := by decide +kernel
theorem dX8_flow_195 : decode cX8_flow 195 = .ok (.getfield 34, 3) := by decide +kernel
theorem dX8_flow_198 : decode cX8_flow 198 = .ok (.iload_n 2, 1) := by decide +kernel
theorem dX8_flow_199 : decode cX8_flow 199 = .ok (.iload 4, 2) := by decide +kernel
theorem dX8_flow_201 : decode cX8_flow 201 = .ok (.iastore, 1) := by decide +kernel
theorem dX8_flow_202 : decode cX8_flow 202 = .ok (.iinc 2 (-1), 3) := by decide +kernel
theorem dX8_flow_205 : decode cX8_flow 205 = .ok (.goto (-160), 3) := by decide +kernel
theorem dX8_flow_208 : decode cX8_flow 208 = .ok (.goto (-176), 3) := by decide +kernel
theorem dX8_flow_211 : decode cX8_flow 211 = .ok (.return_, 1) := by decide +kernel
theorem dX8_meet_0 : decode cX8_meet 0 = .ok (.iconst 0, 1) := by decide +kernel
theorem dX8_meet_1 : decode cX8_meet 1 = .ok (.istore_n 1, 1) := by decide +kernel
theorem dX8_meet_2 : decode cX8_meet 2 = .ok (.iload_n 1, 1) := by decide +kernel
theorem dX8_meet_3 : decode cX8_meet 3 = .ok (.aload_n 0, 1) := by decide +kernel
theorem dX8_meet_4 : decode cX8_meet 4 = .ok (.getfield 79, 3) := by decide +kernel
theorem dX8_meet_7 : decode cX8_meet 7 = .ok (.if_icmp .ge 23, 3) := by decide +kernel
theorem dX8_meet_10 : decode cX8_meet 10 = .ok (.aload_n 0, 1) := by decide +kernel
end
section
theorem dX8_meet_11 : decode cX8_meet 11 = .ok (.getfield 37, 3) := by decide +kernel
theorem dX8_meet_14 : decode cX8_meet 14 = .ok (.iload_n 1, 1) := by decide +kernel
theorem dX8_meet_15 : decode cX8_meet 15 = .ok (.iconst 0, 1) := by decide +kernel
theorem dX8_meet_16 : decode cX8_meet 16 = .ok (.iastore, 1) := by decide +kernel
theorem dX8_meet_17 : decode cX8_meet 17 = .ok (.aload_n 0, 1) := by decide +kernel
theorem dX8_meet_18 : decode cX8_meet 18 = .ok (.getfield 40, 3) := by decide +kernel
theorem dX8_meet_21 : decode cX8_meet 21 = .ok (.iload_n 1, 1) := by decide +kernel
theorem dX8_meet_22 : decode cX8_meet 22 = .ok (.iconst 0, 1) := by decide +kernel
theorem dX8_meet_23 : decode cX8_meet 23 = .ok (.iastore, 1) := by decide +kernel
theorem dX8_meet_24 : decode cX8_meet 24 = .ok (.iinc 1 1, 3) := by decide +kernel
theorem dX8_meet_27 : decode cX8_meet 27 = .ok (.goto (-25), 3) := by decide +kernel
theorem dX8_meet_30 : decode cX8_meet 30 = .ok (.iconst 0, 1) := by decide +kernel
theorem dX8_meet_31 : decode cX8_meet 31 = .ok (.istore_n 1, 1) := by decide +kernel
theorem dX8_meet_32 : decode cX8_meet 32 = .ok (.iload_n 1, 1) := by decide +kernel
theorem dX8_meet_33 : decode cX8_meet 33 = .ok (.aload_n 0, 1) := by decide +kernel
theorem dX8_meet_34 : decode cX8_meet 34 = .ok (.getfield 95, 3) := by decide +kernel
theorem dX8_meet_37 : decode cX8_meet 37 = .ok (.if_icmp .ge 179, 3) := by decide +kernel
theorem dX8_meet_40 : decode cX8_meet 40 = .ok (.aload_n 0, 1) := by decide +kernel
theorem dX8_meet_41 : decode cX8_meet 41 = .ok (.iload_n 1, 1) := by decide +kernel
theorem dX8_meet_42 : decode cX8_meet 42 = .ok (.invokevirtual 106, 3) := by decide +kernel
theorem dX8_meet_45 : decode cX8_meet 45 = .ok (.istore_n 2, 1) := by decide +kernel
theorem dX8_meet_46 : decode cX8_meet 46 = .ok (.iconst 0, 1) := by decide +kernel
theorem dX8_meet_47 : decode cX8_meet 47 = .ok (.istore_n 3, 1) := by decide +kernel
theorem dX8_meet_48 : decode cX8_meet 48 = .ok (.iload_n 3, 1) := by decide +kernel
theorem dX8_meet_49 : decode cX8_meet 49 = .ok (.aload_n 0, 1) := by decide +kernel
theorem dX8_meet_50 : decode cX8_meet 50 = .ok (.getfield 79, 3) := by decide +kernel
theorem dX8_meet_53 : decode cX8_meet 53 = .ok (.if_icmp .ge 104, 3) := by decide +kernel
theorem dX8_meet_56 : decode cX8_meet 56 = .ok (.iload_n 2, 1) := by decide +kernel
theorem dX8_meet_57 : decode cX8_meet 57 = .ok (.iconst (-1), 1) := by decide +kernel
theorem dX8_meet_58 : decode cX8_meet 58 = .ok (.if_icmp .eq 99, 3) := by decide +kernel
theorem dX8_meet_61 : decode cX8_meet 61 = .ok (.aload_n 0, 1) := by decide +kernel
theorem dX8_meet_62 : decode cX8_meet 62 = .ok (.getfield 13, 3) := by decide +kernel
theorem dX8_meet_65 : decode cX8_meet 65 = .ok (.iload_n 1, 1) := by decide +kernel
theorem dX8_meet_66 : decode cX8_meet 66 = .ok (.iaload, 1) := by decide +kernel
theorem dX8_meet_67 : decode cX8_meet 67 = .ok (.iconst 1, 1) := by decide +kernel
theorem dX8_meet_68 : decode cX8_meet 68 = .ok (.if_icmp .ne 17, 3) := by decide +kernel
theorem dX8_meet_71 : decode cX8_meet 71 = .ok (.iload_n 3, 1) := by decide +kernel
theorem dX8_meet_72 : decode cX8_meet 72 = .ok (.aload_n 0, 1) := by decide +kernel
theorem dX8_meet_73 : decode cX8_meet 73 = .ok (.getfield 19, 3) := by decide +kernel
theorem dX8_meet_76 : decode cX8_meet 76 = .ok (.iload_n 1, 1) := by decide +kernel
theorem dX8_meet_77 : decode cX8_meet 77 = .ok (.iaload, 1) := by decide +kernel
theorem dX8_meet_78 : decode cX8_meet 78 = .ok (.if_icmp .ne 7, 3) := by decide +kernel
theorem dX8_meet_81 : decode cX8_meet 81 = .ok (.iconst 1, 1) := by decide +kernel
theorem dX8_meet_82 : decode cX8_meet 82 = .ok (.goto 4, 3) := by decide +kernel
theorem dX8_meet_85 : decode cX8_meet 85 = .ok (.iconst 0, 1) := by decide +kernel
theorem dX8_meet_86 : decode cX8_meet 86 = .ok (.istore 4, 2) := by decide +kernel
theorem dX8_meet_88 : decode cX8_meet 88 = .ok (.iload_n 3, 1) := by decide +kernel
theorem dX8_meet_89 : decode cX8_meet 89 = .ok (.iload_n 2, 1) := by decide +kernel
theorem dX8_meet_90 : decode cX8_meet 90 = .ok (.if_icmp .eq 61, 3) := by decide +kernel
theorem dX8_meet_93 : decode cX8_meet 93 = .ok (.aload_n 0, 1) := by decide +kernel
theorem dX8_meet_94 : decode cX8_meet 94 = .ok (.getfield 7, 3) := by decide +kernel
theorem dX8_meet_97 : decode cX8_meet 97 = .ok (.iload_n 3, 1) := by decide +kernel
theorem dX8_meet_98 : decode cX8_meet 98 = .ok (.iaload, 1) := by decide +kernel
theorem dX8_meet_99 : decode cX8_meet 99 = .ok (.aload_n 0, 1) := by decide +kernel
theorem dX8_meet_100 : decode cX8_meet 100 = .ok (.getfield 7, 3) := by decide +kernel
theorem dX8_meet_103 : decode cX8_meet 103 = .ok (.iload_n 2, 1) := by decide +kernel
theorem dX8_meet_104 : decode cX8_meet 104 = .ok (.iaload, 1) := by decide +kernel
theorem dX8_meet_105 : decode cX8_meet 105 = .ok (.if_icmp .ne 46, 3) := by decide +kernel
theorem dX8_meet_108 : decode cX8_meet 108 = .ok (.aload_n 0, 1) := by decide +kernel
theorem dX8_meet_109 : decode cX8_meet 109 = .ok (.getfield 34, 3) := by decide +kernel
theorem dX8_meet_112 : decode cX8_meet 112 = .ok (.iload_n 1, 1) := by decide +kernel
theorem dX8_meet_113 : decode cX8_meet 113 = .ok (.iaload, 1) := by decide +kernel
theorem dX8_meet_114 : decode cX8_meet 114 = .ok (.iload_n 3, 1) := by decide +kernel
theorem dX8_meet_115 : decode cX8_meet 115 = .ok (.ishr, 1) := by decide +kernel
theorem dX8_meet_116 : decode cX8_meet 116 = .ok (.iconst 1, 1) := by decide +kernel
theorem dX8_meet_117 : decode cX8_meet 117 = .ok (.iand, 1) := by decide +kernel
theorem dX8_meet_118 : decode cX8_meet 118 = .ok (.iconst 1, 1) := by decide +kernel
theorem dX8_meet_119 : decode cX8_meet 119 = .ok (.if_icmp .ne 32, 3) := by decide +kernel
theorem dX8_meet_122 : decode cX8_meet 122 = .ok (.iload 4, 2) := by decide +kernel
theorem dX8_meet_124 : decode cX8_meet 124 = .ok (.ifCond .ne 27, 3) := by decide +kernel
theorem dX8_meet_127 : decode cX8_meet 127 = .ok (.aload_n 0, 1) := by decide +kernel
theorem dX8_meet_128 : decode cX8_meet 128 = .ok (.getfield 37, 3) := by decide +kernel
theorem dX8_meet_131 : decode cX8_meet 131 = .ok (.iload_n 2, 1) := by decide +kernel
theorem dX8_meet_132 : decode cX8_meet 132 = .ok (.dup2, 1) := by decide +kernel
theorem dX8_meet_133 : decode cX8_meet 133 = .ok (.iaload, 1) := by decide +kernel
theorem dX8_meet_134 : decode cX8_meet 134 = .ok (.iconst 1, 1) := by decide +kernel
theorem dX8_meet_135 : decode cX8_meet 135 = .ok (.iload_n 3, 1) := by decide +kernel
theorem dX8_meet_136 : decode cX8_meet 136 = .ok (.ishl, 1) := by decide +kernel
theorem dX8_meet_137 : decode cX8_meet 137 = .ok (.ior, 1) := by decide +kernel
theorem dX8_meet_138 : decode cX8_meet 138 = .ok (.iastore, 1) := by decide +kernel
theorem dX8_meet_139 : decode cX8_meet 139 = .ok (.aload_n 0, 1) := by decide +kernel
theorem dX8_meet_140 : decode cX8_meet 140 = .ok (.getfield 37, 3) := by decide +kernel
theorem dX8_meet_143 : decode cX8_meet 143 = .ok (.iload_n 3, 1) := by decide +kernel
theorem dX8_meet_144 : decode cX8_meet 144 = .ok (.dup2, 1) := by decide +kernel
theorem dX8_meet_145 : decode cX8_meet 145 = .ok (.iaload, 1) := by decide +kernel
theorem dX8_meet_146 : decode cX8_meet 146 = .ok (.iconst 1, 1) := by decide +kernel
theorem dX8_meet_147 : decode cX8_meet 147 = .ok (.iload_n 2, 1) := by decide +kernel
theorem dX8_meet_148 : decode cX8_meet 148 = .ok (.ishl, 1) := by decide +kernel
theorem dX8_meet_149 : decode cX8_meet 149 = .ok (.ior, 1) := by decide +kernel
theorem dX8_meet_150 : decode cX8_meet 150 = .ok (.iastore, 1) := by decide +kernel
theorem dX8_meet_151 : decode cX8_meet 151 = .ok (.iinc 3 1, 3) := by decide +kernel
theorem dX8_meet_154 : decode cX8_meet 154 = .ok (.goto (-106), 3) := by decide +kernel
theorem dX8_meet_157 : decode cX8_meet 157 = .ok (.iload_n 2, 1) := by decide +kernel
theorem dX8_meet_158 : decode cX8_meet 158 = .ok (.iconst (-1), 1) := by decide +kernel
theorem dX8_meet_159 : decode cX8_meet 159 = .ok (.if_icmp .eq 13, 3) := by decide +kernel
theorem dX8_meet_162 : decode cX8_meet 162 = .ok (.aload_n 0, 1) := by decide +kernel
theorem dX8_meet_163 : decode cX8_meet 163 = .ok (.getfield 40, 3) := by decide +kernel
theorem dX8_meet_166 : decode cX8_meet 166 = .ok (.iload_n 2, 1) := by decide +kernel
theorem dX8_meet_167 : decode cX8_meet 167 = .ok (.dup2, 1) := by decide +kernel
theorem dX8_meet_168 : decode cX8_meet 168 = .ok (.iaload, 1) := by decide +kernel
theorem dX8_meet_169 : decode cX8_meet 169 = .ok (.iconst 1, 1) := by decide +kernel
theorem dX8_meet_170 : decode cX8_meet 170 = .ok (.iadd, 1) := by decide +kernel
theorem dX8_meet_171 : decode cX8_meet 171 = .ok (.iastore, 1) := by decide +kernel
theorem dX8_meet_172 : decode cX8_meet 172 = .ok (.iconst 0, 1) := by decide +kernel
theorem dX8_meet_173 : decode cX8_meet 173 = .ok (.istore_n 3, 1) := by decide +kernel
theorem dX8_meet_174 : decode cX8_meet 174 = .ok (.iload_n 3, 1) := by decide +kernel
theorem dX8_meet_175 : decode cX8_meet 175 = .ok (.iconst 2, 1) := by decide +kernel
theorem dX8_meet_176 : decode cX8_meet 176 = .ok (.if_icmp .ge 34, 3) := by decide +kernel
theorem dX8_meet_179 : decode cX8_meet 179 = .ok (.aload_n 0, 1) := by decide +kernel
theorem dX8_meet_180 : decode cX8_meet 180 = .ok (.iload_n 1, 1) := by decide +kernel
theorem dX8_meet_181 : decode cX8_meet 181 = .ok (.iload_n 3, 1) := by decide +kernel
theorem dX8_meet_182 : decode cX8_meet 182 = .ok (.invokevirtual 98, 3) := by decide +kernel
theorem dX8_meet_185 : decode cX8_meet 185 = .ok (.istore 4, 2) := by decide +kernel
theorem dX8_meet_187 : decode cX8_meet 187 = .ok (.iload 4, 2) := by decide +kernel
theorem dX8_meet_189 : decode cX8_meet 189 = .ok (.iconst (-1), 1) := by decide +kernel
theorem dX8_meet_190 : decode cX8_meet 190 = .ok (.if_icmp .eq 14, 3) := by decide +kernel
theorem dX8_meet_193 : decode cX8_meet 193 = .ok (.aload_n 0, 1) := by decide +kernel
theorem dX8_meet_194 : decode cX8_meet 194 = .ok (.getfield 40, 3) := by decide +kernel
theorem dX8_meet_197 : decode cX8_meet 197 = .ok (.iload 4, 2) := by decide +kernel
theorem dX8_meet_199 : decode cX8_meet 199 = .ok (.dup2, 1) := by decide +kernel
theorem dX8_meet_200 : decode cX8_meet 200 = .ok (.iaload, 1) := by decide +kernel
theorem dX8_meet_201 : decode cX8_meet 201 = .ok (.iconst 1, 1) := by decide +kernel
theorem dX8_meet_202 : decode cX8_meet 202 = .ok (.iadd, 1) := by decide +kernel
theorem dX8_meet_203 : decode cX8_meet 203 = .ok (.iastore, 1) := by decide +kernel
theorem dX8_meet_204 : decode cX8_meet 204 = .ok (.iinc 3 1, 3) := by decide +kernel
theorem dX8_meet_207 : decode cX8_meet 207 = .ok (.goto (-33), 3) := by decide +kernel
theorem dX8_meet_210 : decode cX8_meet 210 = .ok (.iinc 1 1, 3) := by decide +kernel
theorem dX8_meet_213 : decode cX8_meet 213 = .ok (.goto (-181), 3) := by decide +kernel
theorem dX8_meet_216 : decode cX8_meet 216 = .ok (.return_, 1) := by decide +kernel
theorem dX8_isJoined_0 : decode cX8_isJoined 0 = .ok (.iconst 0, 1) := by decide +kernel
theorem dX8_isJoined_1 : decode cX8_isJoined 1 = .ok (.istore_n 3, 1) := by decide +kernel
theorem dX8_isJoined_2 : decode cX8_isJoined 2 = .ok (.iconst 0, 1) := by decide +kernel
theorem dX8_isJoined_3 : decode cX8_isJoined 3 = .ok (.istore 4, 2) := by decide +kernel
theorem dX8_isJoined_5 : decode cX8_isJoined 5 = .ok (.iload 4, 2) := by decide +kernel
theorem dX8_isJoined_7 : decode cX8_isJoined 7 = .ok (.aload_n 0, 1) := by decide +kernel
theorem dX8_isJoined_8 : decode cX8_isJoined 8 = .ok (.getfield 95, 3) := by decide +kernel
theorem dX8_isJoined_11 : decode cX8_isJoined 11 = .ok (.if_icmp .ge 74, 3) := by decide +kernel
theorem dX8_isJoined_14 : decode cX8_isJoined 14 = .ok (.iload_n 3, 1) := by decide +kernel
theorem dX8_isJoined_15 : decode cX8_isJoined 15 = .ok (.ifCond .ne 58, 3) := by decide +kernel
theorem dX8_isJoined_18 : decode cX8_isJoined 18 = .ok (.aload_n 0, 1) := by decide +kernel
theorem dX8_isJoined_19 : decode cX8_isJoined 19 = .ok (.getfield 13, 3) := by decide +kernel
theorem dX8_isJoined_22 : decode cX8_isJoined 22 = .ok (.iload 4, 2) := by decide +kernel
theorem dX8_isJoined_24 : decode cX8_isJoined 24 = .ok (.iaload, 1) := by decide +kernel
theorem dX8_isJoined_25 : decode cX8_isJoined 25 = .ok (.iconst 1, 1) := by decide +kernel
theorem dX8_isJoined_26 : decode cX8_isJoined 26 = .ok (.if_icmp .ne 51, 3) := by decide +kernel
theorem dX8_isJoined_29 : decode cX8_isJoined 29 = .ok (.aload_n 0, 1) := by decide +kernel
theorem dX8_isJoined_30 : decode cX8_isJoined 30 = .ok (.getfield 16, 3) := by decide +kernel
theorem dX8_isJoined_33 : decode cX8_isJoined 33 = .ok (.iload 4, 2) := by decide +kernel
theorem dX8_isJoined_35 : decode cX8_isJoined 35 = .ok (.iaload, 1) := by decide +kernel
theorem dX8_isJoined_36 : decode cX8_isJoined 36 = .ok (.iload_n 1, 1) := by decide +kernel
theorem dX8_isJoined_37 : decode cX8_isJoined 37 = .ok (.if_icmp .ne 14, 3) := by decide +kernel
theorem dX8_isJoined_40 : decode cX8_isJoined 40 = .ok (.aload_n 0, 1) := by decide +kernel
theorem dX8_isJoined_41 : decode cX8_isJoined 41 = .ok (.getfield 19, 3) := by decide +kernel
theorem dX8_isJoined_44 : decode cX8_isJoined 44 = .ok (.iload 4, 2) := by decide +kernel
theorem dX8_isJoined_46 : decode cX8_isJoined 46 = .ok (.iaload, 1) := by decide +kernel
theorem dX8_isJoined_47 : decode cX8_isJoined 47 = .ok (.iload_n 2, 1) := by decide +kernel
theorem dX8_isJoined_48 : decode cX8_isJoined 48 = .ok (.if_icmp .eq 25, 3) := by decide +kernel
theorem dX8_isJoined_51 : decode cX8_isJoined 51 = .ok (.aload_n 0, 1) := by decide +kernel
theorem dX8_isJoined_52 : decode cX8_isJoined 52 = .ok (.getfield 16, 3) := by decide +kernel
theorem dX8_isJoined_55 : decode cX8_isJoined 55 = .ok (.iload 4, 2) := by decide +kernel
theorem dX8_isJoined_57 : decode cX8_isJoined 57 = .ok (.iaload, 1) := by decide +kernel
theorem dX8_isJoined_58 : decode cX8_isJoined 58 = .ok (.iload_n 2, 1) := by decide +kernel
theorem dX8_isJoined_59 : decode cX8_isJoined 59 = .ok (.if_icmp .ne 18, 3) := by decide +kernel
theorem dX8_isJoined_62 : decode cX8_isJoined 62 = .ok (.aload_n 0, 1) := by decide +kernel
theorem dX8_isJoined_63 : decode cX8_isJoined 63 = .ok (.getfield 19, 3) := by decide +kernel
theorem dX8_isJoined_66 : decode cX8_isJoined 66 = .ok (.iload 4, 2) := by decide +kernel
theorem dX8_isJoined_68 : decode cX8_isJoined 68 = .ok (.iaload, 1) := by decide +kernel
theorem dX8_isJoined_69 : decode cX8_isJoined 69 = .ok (.iload_n 1, 1) := by decide +kernel
theorem dX8_isJoined_70 : decode cX8_isJoined 70 = .ok (.if_icmp .ne 7, 3) := by decide +kernel
theorem dX8_isJoined_73 : decode cX8_isJoined 73 = .ok (.iconst 1, 1) := by decide +kernel
theorem dX8_isJoined_74 : decode cX8_isJoined 74 = .ok (.goto 4, 3) := by decide +kernel
theorem dX8_isJoined_77 : decode cX8_isJoined 77 = .ok (.iconst 0, 1) := by decide +kernel
theorem dX8_isJoined_78 : decode cX8_isJoined 78 = .ok (.istore_n 3, 1) := by decide +kernel
theorem dX8_isJoined_79 : decode cX8_isJoined 79 = .ok (.iinc 4 1, 3) := by decide +kernel
theorem dX8_isJoined_82 : decode cX8_isJoined 82 = .ok (.goto (-77), 3) := by decide +kernel
theorem dX8_isJoined_85 : decode cX8_isJoined 85 = .ok (.iload_n 3, 1) := by decide +kernel
theorem dX8_isJoined_86 : decode cX8_isJoined 86 = .ok (.ireturn, 1) := by decide +kernel
theorem dX8_isFree_0 : decode cX8_isFree 0 = .ok (.iconst 1, 1) := by decide +kernel
theorem dX8_isFree_1 : decode cX8_isFree 1 = .ok (.istore_n 3, 1) := by decide +kernel
theorem dX8_isFree_2 : decode cX8_isFree 2 = .ok (.iconst 0, 1) := by decide +kernel
theorem dX8_isFree_3 : decode cX8_isFree 3 = .ok (.istore 4, 2) := by decide +kernel
theorem dX8_isFree_5 : decode cX8_isFree 5 = .ok (.iload 4, 2) := by decide +kernel
theorem dX8_isFree_7 : decode cX8_isFree 7 = .ok (.aload_n 0, 1) := by decide +kernel
theorem dX8_isFree_8 : decode cX8_isFree 8 = .ok (.getfield 79, 3) := by decide +kernel
theorem dX8_isFree_11 : decode cX8_isFree 11 = .ok (.if_icmp .ge 44, 3) := by decide +kernel
theorem dX8_isFree_14 : decode cX8_isFree 14 = .ok (.iload_n 3, 1) := by decide +kernel
theorem dX8_isFree_15 : decode cX8_isFree 15 = .ok (.ifCond .eq 32, 3) := by decide +kernel
theorem dX8_isFree_18 : decode cX8_isFree 18 = .ok (.aload_n 0, 1) := by decide +kernel
theorem dX8_isFree_19 : decode cX8_isFree 19 = .ok (.getfield 37, 3) := by decide +kernel
theorem dX8_isFree_22 : decode cX8_isFree 22 = .ok (.iload_n 1, 1) := by decide +kernel
theorem dX8_isFree_23 : decode cX8_isFree 23 = .ok (.iaload, 1) := by decide +kernel
theorem dX8_isFree_24 : decode cX8_isFree 24 = .ok (.iload 4, 2) := by decide +kernel
theorem dX8_isFree_26 : decode cX8_isFree 26 = .ok (.ishr, 1) := by decide +kernel
theorem dX8_isFree_27 : decode cX8_isFree 27 = .ok (.iconst 1, 1) := by decide +kernel
theorem dX8_isFree_28 : decode cX8_isFree 28 = .ok (.iand, 1) := by decide +kernel
theorem dX8_isFree_29 : decode cX8_isFree 29 = .ok (.ifCond .eq 14, 3) := by decide +kernel
theorem dX8_isFree_32 : decode cX8_isFree 32 = .ok (.aload_n 0, 1) := by decide +kernel
theorem dX8_isFree_33 : decode cX8_isFree 33 = .ok (.getfield 46, 3) := by decide +kernel
theorem dX8_isFree_36 : decode cX8_isFree 36 = .ok (.iload 4, 2) := by decide +kernel
theorem dX8_isFree_38 : decode cX8_isFree 38 = .ok (.iaload, 1) := by decide +kernel
theorem dX8_isFree_39 : decode cX8_isFree 39 = .ok (.iload_n 2, 1) := by decide +kernel
theorem dX8_isFree_40 : decode cX8_isFree 40 = .ok (.if_icmp .eq 7, 3) := by decide +kernel
theorem dX8_isFree_43 : decode cX8_isFree 43 = .ok (.iconst 1, 1) := by decide +kernel
theorem dX8_isFree_44 : decode cX8_isFree 44 = .ok (.goto 4, 3) := by decide +kernel
theorem dX8_isFree_47 : decode cX8_isFree 47 = .ok (.iconst 0, 1) := by decide +kernel
theorem dX8_isFree_48 : decode cX8_isFree 48 = .ok (.istore_n 3, 1) := by decide +kernel
theorem dX8_isFree_49 : decode cX8_isFree 49 = .ok (.iinc 4 1, 3) := by decide +kernel
theorem dX8_isFree_52 : decode cX8_isFree 52 = .ok (.goto (-47), 3) := by decide +kernel
theorem dX8_isFree_55 : decode cX8_isFree 55 = .ok (.iload_n 3, 1) := by decide +kernel
theorem dX8_isFree_56 : decode cX8_isFree 56 = .ok (.ireturn, 1) := by decide +kernel
theorem dX8_homeFor_0 : decode cX8_homeFor 0 = .ok (.aload_n 0, 1) := by decide +kernel
theorem dX8_homeFor_1 : decode cX8_homeFor 1 = .ok (.getfield 7, 3) := by decide +kernel
theorem dX8_homeFor_4 : decode cX8_homeFor 4 = .ok (.iload_n 1, 1) := by decide +kernel
theorem dX8_homeFor_5 : decode cX8_homeFor 5 = .ok (.iaload, 1) := by decide +kernel
theorem dX8_homeFor_6 : decode cX8_homeFor 6 = .ok (.istore_n 2, 1) := by decide +kernel
theorem dX8_homeFor_7 : decode cX8_homeFor 7 = .ok (.iconst 0, 1) := by decide +kernel
theorem dX8_homeFor_8 : decode cX8_homeFor 8 = .ok (.istore_n 3, 1) := by decide +kernel
theorem dX8_homeFor_9 : decode cX8_homeFor 9 = .ok (.iload_n 3, 1) := by decide +kernel
theorem dX8_homeFor_10 : decode cX8_homeFor 10 = .ok (.aload_n 0, 1) := by decide +kernel
theorem dX8_homeFor_11 : decode cX8_homeFor 11 = .ok (.getfield 25, 3) := by decide +kernel
theorem dX8_homeFor_14 : decode cX8_homeFor 14 = .ok (.iload_n 2, 1) := by decide +kernel
theorem dX8_homeFor_15 : decode cX8_homeFor 15 = .ok (.iaload, 1) := by decide +kernel
theorem dX8_homeFor_16 : decode cX8_homeFor 16 = .ok (.if_icmp .ge 96, 3) := by decide +kernel
theorem dX8_homeFor_19 : decode cX8_homeFor 19 = .ok (.iconst 0, 1) := by decide +kernel
theorem dX8_homeFor_20 : decode cX8_homeFor 20 = .ok (.istore 4, 2) := by decide +kernel
theorem dX8_homeFor_22 : decode cX8_homeFor 22 = .ok (.iconst 0, 1) := by decide +kernel
theorem dX8_homeFor_23 : decode cX8_homeFor 23 = .ok (.istore 5, 2) := by decide +kernel
theorem dX8_homeFor_25 : decode cX8_homeFor 25 = .ok (.iload 5, 2) := by decide +kernel
theorem dX8_homeFor_27 : decode cX8_homeFor 27 = .ok (.aload_n 0, 1) := by decide +kernel
theorem dX8_homeFor_28 : decode cX8_homeFor 28 = .ok (.getfield 79, 3) := by decide +kernel
theorem dX8_homeFor_31 : decode cX8_homeFor 31 = .ok (.if_icmp .ge 59, 3) := by decide +kernel
theorem dX8_homeFor_34 : decode cX8_homeFor 34 = .ok (.iload 4, 2) := by decide +kernel
theorem dX8_homeFor_36 : decode cX8_homeFor 36 = .ok (.ifCond .ne 41, 3) := by decide +kernel
theorem dX8_homeFor_39 : decode cX8_homeFor 39 = .ok (.iload 5, 2) := by decide +kernel
theorem dX8_homeFor_41 : decode cX8_homeFor 41 = .ok (.iload_n 1, 1) := by decide +kernel
theorem dX8_homeFor_42 : decode cX8_homeFor 42 = .ok (.if_icmp .eq 39, 3) := by decide +kernel
theorem dX8_homeFor_45 : decode cX8_homeFor 45 = .ok (.aload_n 0, 1) := by decide +kernel
theorem dX8_homeFor_46 : decode cX8_homeFor 46 = .ok (.getfield 7, 3) := by decide +kernel
theorem dX8_homeFor_49 : decode cX8_homeFor 49 = .ok (.iload 5, 2) := by decide +kernel
theorem dX8_homeFor_51 : decode cX8_homeFor 51 = .ok (.iaload, 1) := by decide +kernel
theorem dX8_homeFor_52 : decode cX8_homeFor 52 = .ok (.iload_n 2, 1) := by decide +kernel
theorem dX8_homeFor_53 : decode cX8_homeFor 53 = .ok (.if_icmp .ne 28, 3) := by decide +kernel
theorem dX8_homeFor_56 : decode cX8_homeFor 56 = .ok (.aload_n 0, 1) := by decide +kernel
theorem dX8_homeFor_57 : decode cX8_homeFor 57 = .ok (.getfield 46, 3) := by decide +kernel
theorem dX8_homeFor_60 : decode cX8_homeFor 60 = .ok (.iload 5, 2) := by decide +kernel
theorem dX8_homeFor_62 : decode cX8_homeFor 62 = .ok (.iaload, 1) := by decide +kernel
theorem dX8_homeFor_63 : decode cX8_homeFor 63 = .ok (.iload_n 3, 1) := by decide +kernel
theorem dX8_homeFor_64 : decode cX8_homeFor 64 = .ok (.if_icmp .ne 17, 3) := by decide +kernel
theorem dX8_homeFor_67 : decode cX8_homeFor 67 = .ok (.aload_n 0, 1) := by decide +kernel
theorem dX8_homeFor_68 : decode cX8_homeFor 68 = .ok (.iload_n 1, 1) := by decide +kernel
theorem dX8_homeFor_69 : decode cX8_homeFor 69 = .ok (.iload 5, 2) := by decide +kernel
theorem dX8_homeFor_71 : decode cX8_homeFor 71 = .ok (.invokevirtual 112, 3) := by decide +kernel
theorem dX8_homeFor_74 : decode cX8_homeFor 74 = .ok (.ifCond .eq 7, 3) := by decide +kernel
theorem dX8_homeFor_77 : decode cX8_homeFor 77 = .ok (.iconst 1, 1) := by decide +kernel
theorem dX8_homeFor_78 : decode cX8_homeFor 78 = .ok (.goto 4, 3) := by decide +kernel
theorem dX8_homeFor_81 : decode cX8_homeFor 81 = .ok (.iconst 0, 1) := by decide +kernel
theorem dX8_homeFor_82 : decode cX8_homeFor 82 = .ok (.istore 4, 2) := by decide +kernel
theorem dX8_homeFor_84 : decode cX8_homeFor 84 = .ok (.iinc 5 1, 3) := by decide +kernel
theorem dX8_homeFor_87 : decode cX8_homeFor 87 = .ok (.goto (-62), 3) := by decide +kernel
theorem dX8_homeFor_90 : decode cX8_homeFor 90 = .ok (.iload 4, 2) := by decide +kernel
theorem dX8_homeFor_92 : decode cX8_homeFor 92 = .ok (.ifCond .eq 14, 3) := by decide +kernel
theorem dX8_homeFor_95 : decode cX8_homeFor 95 = .ok (.aload_n 0, 1) := by decide +kernel
theorem dX8_homeFor_96 : decode cX8_homeFor 96 = .ok (.iload_n 1, 1) := by decide +kernel
theorem dX8_homeFor_97 : decode cX8_homeFor 97 = .ok (.iload_n 3, 1) := by decide +kernel
theorem dX8_homeFor_98 : decode cX8_homeFor 98 = .ok (.invokevirtual 115, 3) := by decide +kernel
theorem dX8_homeFor_101 : decode cX8_homeFor 101 = .ok (.ifCond .eq 5, 3) := by decide +kernel
theorem dX8_homeFor_104 : decode cX8_homeFor 104 = .ok (.iload_n 3, 1) := by decide +kernel
theorem dX8_homeFor_105 : decode cX8_homeFor 105 = .ok (.ireturn, 1) := by decide +kernel
theorem dX8_homeFor_106 : decode cX8_homeFor 106 = .ok (.iinc 3 1, 3) := by decide +kernel
theorem dX8_homeFor_109 : decode cX8_homeFor 109 = .ok (.goto (-100), 3) := by decide +kernel
theorem dX8_homeFor_112 : decode cX8_homeFor 112 = .ok (.iconst 0, 1) := by decide +kernel
theorem dX8_homeFor_113 : decode cX8_homeFor 113 = .ok (.istore_n 3, 1) := by decide +kernel
theorem dX8_homeFor_114 : decode cX8_homeFor 114 = .ok (.iload_n 3, 1) := by decide +kernel
theorem dX8_homeFor_115 : decode cX8_homeFor 115 = .ok (.aload_n 0, 1) := by decide +kernel
theorem dX8_homeFor_116 : decode cX8_homeFor 116 = .ok (.getfield 25, 3) := by decide +kernel
theorem dX8_homeFor_119 : decode cX8_homeFor 119 = .ok (.iload_n 2, 1) := by decide +kernel
theorem dX8_homeFor_120 : decode cX8_homeFor 120 = .ok (.iaload, 1) := by decide +kernel
theorem dX8_homeFor_121 : decode cX8_homeFor 121 = .ok (.if_icmp .ge 20, 3) := by decide +kernel
theorem dX8_homeFor_124 : decode cX8_homeFor 124 = .ok (.aload_n 0, 1) := by decide +kernel
theorem dX8_homeFor_125 : decode cX8_homeFor 125 = .ok (.iload_n 1, 1) := by decide +kernel
theorem dX8_homeFor_126 : decode cX8_homeFor 126 = .ok (.iload_n 3, 1) := by decide +kernel
theorem dX8_homeFor_127 : decode cX8_homeFor 127 = .ok (.invokevirtual 115, 3) := by decide +kernel
theorem dX8_homeFor_130 : decode cX8_homeFor 130 = .ok (.ifCond .eq 5, 3) := by decide +kernel
theorem dX8_homeFor_133 : decode cX8_homeFor 133 = .ok (.iload_n 3, 1) := by decide +kernel
theorem dX8_homeFor_134 : decode cX8_homeFor 134 = .ok (.ireturn, 1) := by decide +kernel
theorem dX8_homeFor_135 : decode cX8_homeFor 135 = .ok (.iinc 3 1, 3) := by decide +kernel
theorem dX8_homeFor_138 : decode cX8_homeFor 138 = .ok (.goto (-24), 3) := by decide +kernel
theorem dX8_homeFor_141 : decode cX8_homeFor 141 = .ok (.bipush 100, 2) := by decide +kernel
theorem dX8_homeFor_143 : decode cX8_homeFor 143 = .ok (.istore_n 3, 1) := by decide +kernel
theorem dX8_homeFor_144 : decode cX8_homeFor 144 = .ok (.aload_n 0, 1) := by decide +kernel
theorem dX8_homeFor_145 : decode cX8_homeFor 145 = .ok (.iload_n 1, 1) := by decide +kernel
theorem dX8_homeFor_146 : decode cX8_homeFor 146 = .ok (.iload_n 3, 1) := by decide +kernel
theorem dX8_homeFor_147 : decode cX8_homeFor 147 = .ok (.invokevirtual 115, 3) := by decide +kernel
theorem dX8_homeFor_150 : decode cX8_homeFor 150 = .ok (.ifCond .ne 9, 3) := by decide +kernel
theorem dX8_homeFor_153 : decode cX8_homeFor 153 = .ok (.iinc 3 1, 3) := by decide +kernel
theorem dX8_homeFor_156 : decode cX8_homeFor 156 = .ok (.goto (-12), 3) := by decide +kernel
theorem dX8_homeFor_159 : decode cX8_homeFor 159 = .ok (.iload_n 3, 1) := by decide +kernel
theorem dX8_homeFor_160 : decode cX8_homeFor 160 = .ok (.ireturn, 1) := by decide +kernel
theorem dX8_settle_0 : decode cX8_settle 0 = .ok (.aload_n 0, 1) := by decide +kernel
theorem dX8_settle_1 : decode cX8_settle 1 = .ok (.invokevirtual 118, 3) := by decide +kernel
theorem dX8_settle_4 : decode cX8_settle 4 = .ok (.aload_n 0, 1) := by decide +kernel
theorem dX8_settle_5 : decode cX8_settle 5 = .ok (.invokevirtual 121, 3) := by decide +kernel
theorem dX8_settle_8 : decode cX8_settle 8 = .ok (.iconst 0, 1) := by decide +kernel
theorem dX8_settle_9 : decode cX8_settle 9 = .ok (.istore_n 1, 1) := by decide +kernel
theorem dX8_settle_10 : decode cX8_settle 10 = .ok (.iload_n 1, 1) := by decide +kernel
theorem dX8_settle_11 : decode cX8_settle 11 = .ok (.aload_n 0, 1) := by decide +kernel
theorem dX8_settle_12 : decode cX8_settle 12 = .ok (.getfield 79, 3) := by decide +kernel
theorem dX8_settle_15 : decode cX8_settle 15 = .ok (.if_icmp .ge 71, 3) := by decide +kernel
theorem dX8_settle_18 : decode cX8_settle 18 = .ok (.iload_n 1, 1) := by decide +kernel
theorem dX8_settle_19 : decode cX8_settle 19 = .ok (.istore_n 2, 1) := by decide +kernel
theorem dX8_settle_20 : decode cX8_settle 20 = .ok (.iload_n 2, 1) := by decide +kernel
theorem dX8_settle_21 : decode cX8_settle 21 = .ok (.ifCond .le 45, 3) := by decide +kernel
theorem dX8_settle_24 : decode cX8_settle 24 = .ok (.aload_n 0, 1) := by decide +kernel
theorem dX8_settle_25 : decode cX8_settle 25 = .ok (.getfield 40, 3) := by decide +kernel
theorem dX8_settle_28 : decode cX8_settle 28 = .ok (.aload_n 0, 1) := by decide +kernel
theorem dX8_settle_29 : decode cX8_settle 29 = .ok (.getfield 43, 3) := by decide +kernel
theorem dX8_settle_32 : decode cX8_settle 32 = .ok (.iload_n 2, 1) := by decide +kernel
theorem dX8_settle_33 : decode cX8_settle 33 = .ok (.iconst 1, 1) := by decide +kernel
theorem dX8_settle_34 : decode cX8_settle 34 = .ok (.isub, 1) := by decide +kernel
theorem dX8_settle_35 : decode cX8_settle 35 = .ok (.iaload, 1) := by decide +kernel
theorem dX8_settle_36 : decode cX8_settle 36 = .ok (.iaload, 1) := by decide +kernel
theorem dX8_settle_37 : decode cX8_settle 37 = .ok (.aload_n 0, 1) := by decide +kernel
theorem dX8_settle_38 : decode cX8_settle 38 = .ok (.getfield 40, 3) := by decide +kernel
theorem dX8_settle_41 : decode cX8_settle 41 = .ok (.iload_n 1, 1) := by decide +kernel
theorem dX8_settle_42 : decode cX8_settle 42 = .ok (.iaload, 1) := by decide +kernel
theorem dX8_settle_43 : decode cX8_settle 43 = .ok (.if_icmp .ge 23, 3) := by decide +kernel
theorem dX8_settle_46 : decode cX8_settle 46 = .ok (.aload_n 0, 1) := by decide +kernel
theorem dX8_settle_47 : decode cX8_settle 47 = .ok (.getfield 43, 3) := by decide +kernel
theorem dX8_settle_50 : decode cX8_settle 50 = .ok (.iload_n 2, 1) := by decide +kernel
theorem dX8_settle_51 : decode cX8_settle 51 = .ok (.aload_n 0, 1) := by decide +kernel
theorem dX8_settle_52 : decode cX8_settle 52 = .ok (.getfield 43, 3) := by decide +kernel
theorem dX8_settle_55 : decode cX8_settle 55 = .ok (.iload_n 2, 1) := by decide +kernel
theorem dX8_settle_56 : decode cX8_settle 56 = .ok (.iconst 1, 1) := by decide +kernel
theorem dX8_settle_57 : decode cX8_settle 57 = .ok (.isub, 1) := by decide +kernel
theorem dX8_settle_58 : decode cX8_settle 58 = .ok (.iaload, 1) := by decide +kernel
theorem dX8_settle_59 : decode cX8_settle 59 = .ok (.iastore, 1) := by decide +kernel
theorem dX8_settle_60 : decode cX8_settle 60 = .ok (.iinc 2 (-1), 3) := by decide +kernel
theorem dX8_settle_63 : decode cX8_settle 63 = .ok (.goto (-43), 3) := by decide +kernel
theorem dX8_settle_66 : decode cX8_settle 66 = .ok (.aload_n 0, 1) := by decide +kernel
theorem dX8_settle_67 : decode cX8_settle 67 = .ok (.getfield 43, 3) := by decide +kernel
theorem dX8_settle_70 : decode cX8_settle 70 = .ok (.iload_n 2, 1) := by decide +kernel
theorem dX8_settle_71 : decode cX8_settle 71 = .ok (.iload_n 1, 1) := by decide +kernel
theorem dX8_settle_72 : decode cX8_settle 72 = .ok (.iastore, 1) := by decide +kernel
theorem dX8_settle_73 : decode cX8_settle 73 = .ok (.aload_n 0, 1) := by decide +kernel
theorem dX8_settle_74 : decode cX8_settle 74 = .ok (.getfield 46, 3) := by decide +kernel
theorem dX8_settle_77 : decode cX8_settle 77 = .ok (.iload_n 1, 1) := by decide +kernel
theorem dX8_settle_78 : decode cX8_settle 78 = .ok (.iconst (-1), 1) := by decide +kernel
theorem dX8_settle_79 : decode cX8_settle 79 = .ok (.iastore, 1) := by decide +kernel
theorem dX8_settle_80 : decode cX8_settle 80 = .ok (.iinc 1 1, 3) := by decide +kernel
theorem dX8_settle_83 : decode cX8_settle 83 = .ok (.goto (-73), 3) := by decide +kernel
theorem dX8_settle_86 : decode cX8_settle 86 = .ok (.iconst 0, 1) := by decide +kernel
theorem dX8_settle_87 : decode cX8_settle 87 = .ok (.istore_n 1, 1) := by decide +kernel
theorem dX8_settle_88 : decode cX8_settle 88 = .ok (.iload_n 1, 1) := by decide +kernel
theorem dX8_settle_89 : decode cX8_settle 89 = .ok (.aload_n 0, 1) := by decide +kernel
theorem dX8_settle_90 : decode cX8_settle 90 = .ok (.getfield 79, 3) := by decide +kernel
theorem dX8_settle_93 : decode cX8_settle 93 = .ok (.if_icmp .ge 30, 3) := by decide +kernel
theorem dX8_settle_96 : decode cX8_settle 96 = .ok (.aload_n 0, 1) := by decide +kernel
theorem dX8_settle_97 : decode cX8_settle 97 = .ok (.getfield 46, 3) := by decide +kernel
theorem dX8_settle_100 : decode cX8_settle 100 = .ok (.aload_n 0, 1) := by decide +kernel
theorem dX8_settle_101 : decode cX8_settle 101 = .ok (.getfield 43, 3) := by decide +kernel
theorem dX8_settle_104 : decode cX8_settle 104 = .ok (.iload_n 1, 1) := by decide +kernel
theorem dX8_settle_105 : decode cX8_settle 105 = .ok (.iaload, 1) := by decide +kernel
theorem dX8_settle_106 : decode cX8_settle 106 = .ok (.aload_n 0, 1) := by decide +kernel
theorem dX8_settle_107 : decode cX8_settle 107 = .ok (.aload_n 0, 1) := by decide +kernel
theorem dX8_settle_108 : decode cX8_settle 108 = .ok (.getfield 43, 3) := by decide +kernel
theorem dX8_settle_111 : decode cX8_settle 111 = .ok (.iload_n 1, 1) := by decide +kernel
theorem dX8_settle_112 : decode cX8_settle 112 = .ok (.iaload, 1) := by decide +kernel
theorem dX8_settle_113 : decode cX8_settle 113 = .ok (.invokevirtual 124, 3) := by decide +kernel
theorem dX8_settle_116 : decode cX8_settle 116 = .ok (.iastore, 1) := by decide +kernel
theorem dX8_settle_117 : decode cX8_settle 117 = .ok (.iinc 1 1, 3) := by decide +kernel
theorem dX8_settle_120 : decode cX8_settle 120 = .ok (.goto (-32), 3) := by decide +kernel
theorem dX8_settle_123 : decode cX8_settle 123 = .ok (.return_, 1) := by decide +kernel
theorem dX8_lay_0 : decode cX8_lay 0 = .ok (.iconst 4, 1) := by decide +kernel
theorem dX8_lay_1 : decode cX8_lay 1 = .ok (.aload_n 0, 1) := by decide +kernel
theorem dX8_lay_2 : decode cX8_lay 2 = .ok (.getfield 52, 3) := by decide +kernel
theorem dX8_lay_5 : decode cX8_lay 5 = .ok (.iconst 0, 1) := by decide +kernel
theorem dX8_lay_6 : decode cX8_lay 6 = .ok (.iaload, 1) := by decide +kernel
theorem dX8_lay_7 : decode cX8_lay 7 = .ok (.imul, 1) := by decide +kernel
theorem dX8_lay_8 : decode cX8_lay 8 = .ok (.istore 5, 2) := by decide +kernel
theorem dX8_lay_10 : decode cX8_lay 10 = .ok (.aload_n 0, 1) := by decide +kernel
theorem dX8_lay_11 : decode cX8_lay 11 = .ok (.getfield 49, 3) := by decide +kernel
theorem dX8_lay_14 : decode cX8_lay 14 = .ok (.iload 5, 2) := by decide +kernel
theorem dX8_lay_16 : decode cX8_lay 16 = .ok (.iload_n 1, 1) := by decide +kernel
theorem dX8_lay_17 : decode cX8_lay 17 = .ok (.iastore, 1) := by decide +kernel
theorem dX8_lay_18 : decode cX8_lay 18 = .ok (.aload_n 0, 1) := by decide +kernel
theorem dX8_lay_19 : decode cX8_lay 19 = .ok (.getfield 49, 3) := by decide +kernel
theorem dX8_lay_22 : decode cX8_lay 22 = .ok (.iload 5, 2) := by decide +kernel
theorem dX8_lay_24 : decode cX8_lay 24 = .ok (.iconst 1, 1) := by decide +kernel
theorem dX8_lay_25 : decode cX8_lay 25 = .ok (.iadd, 1) := by decide +kernel
theorem dX8_lay_26 : decode cX8_lay 26 = .ok (.iload_n 2, 1) := by decide +kernel
theorem dX8_lay_27 : decode cX8_lay 27 = .ok (.iastore, 1) := by decide +kernel
theorem dX8_lay_28 : decode cX8_lay 28 = .ok (.aload_n 0, 1) := by decide +kernel
theorem dX8_lay_29 : decode cX8_lay 29 = .ok (.getfield 49, 3) := by decide +kernel
theorem dX8_lay_32 : decode cX8_lay 32 = .ok (.iload 5, 2) := by decide +kernel
theorem dX8_lay_34 : decode cX8_lay 34 = .ok (.iconst 2, 1) := by decide +kernel
theorem dX8_lay_35 : decode cX8_lay 35 = .ok (.iadd, 1) := by decide +kernel
theorem dX8_lay_36 : decode cX8_lay 36 = .ok (.iload_n 3, 1) := by decide +kernel
theorem dX8_lay_37 : decode cX8_lay 37 = .ok (.iastore, 1) := by decide +kernel
theorem dX8_lay_38 : decode cX8_lay 38 = .ok (.aload_n 0, 1) := by decide +kernel
theorem dX8_lay_39 : decode cX8_lay 39 = .ok (.getfield 49, 3) := by decide +kernel
theorem dX8_lay_42 : decode cX8_lay 42 = .ok (.iload 5, 2) := by decide +kernel
theorem dX8_lay_44 : decode cX8_lay 44 = .ok (.iconst 3, 1) := by decide +kernel
theorem dX8_lay_45 : decode cX8_lay 45 = .ok (.iadd, 1) := by decide +kernel
theorem dX8_lay_46 : decode cX8_lay 46 = .ok (.iload 4, 2) := by decide +kernel
theorem dX8_lay_48 : decode cX8_lay 48 = .ok (.iastore, 1) := by decide +kernel
theorem dX8_lay_49 : decode cX8_lay 49 = .ok (.aload_n 0, 1) := by decide +kernel
theorem dX8_lay_50 : decode cX8_lay 50 = .ok (.getfield 52, 3) := by decide +kernel
theorem dX8_lay_53 : decode cX8_lay 53 = .ok (.iconst 0, 1) := by decide +kernel
theorem dX8_lay_54 : decode cX8_lay 54 = .ok (.dup2, 1) := by decide +kernel
theorem dX8_lay_55 : decode cX8_lay 55 = .ok (.iaload, 1) := by decide +kernel
theorem dX8_lay_56 : decode cX8_lay 56 = .ok (.iconst 1, 1) := by decide +kernel
theorem dX8_lay_57 : decode cX8_lay 57 = .ok (.iadd, 1) := by decide +kernel
theorem dX8_lay_58 : decode cX8_lay 58 = .ok (.iastore, 1) := by decide +kernel
theorem dX8_lay_59 : decode cX8_lay 59 = .ok (.return_, 1) := by decide +kernel
theorem dX8_register_0 : decode cX8_register 0 = .ok (.bipush 16, 2) := by decide +kernel
theorem dX8_register_2 : decode cX8_register 2 = .ok (.iload_n 0, 1) := by decide +kernel
theorem dX8_register_3 : decode cX8_register 3 = .ok (.imul, 1) := by decide +kernel
theorem dX8_register_4 : decode cX8_register 4 = .ok (.iload_n 1, 1) := by decide +kernel
theorem dX8_register_5 : decode cX8_register 5 = .ok (.iadd, 1) := by decide +kernel
theorem dX8_register_6 : decode cX8_register 6 = .ok (.ireturn, 1) := by decide +kernel
theorem dX8_fetch_0 : decode cX8_fetch 0 = .ok (.bipush 8, 2) := by decide +kernel
theorem dX8_fetch_2 : decode cX8_fetch 2 = .ok (.istore_n 2, 1) := by decide +kernel
theorem dX8_fetch_3 : decode cX8_fetch 3 = .ok (.iconst 0, 1) := by decide +kernel
theorem dX8_fetch_4 : decode cX8_fetch 4 = .ok (.istore_n 3, 1) := by decide +kernel
theorem dX8_fetch_5 : decode cX8_fetch 5 = .ok (.iload_n 3, 1) := by decide +kernel
theorem dX8_fetch_6 : decode cX8_fetch 6 = .ok (.aload_n 0, 1) := by decide +kernel
theorem dX8_fetch_7 : decode cX8_fetch 7 = .ok (.getfield 127, 3) := by decide +kernel
theorem dX8_fetch_10 : decode cX8_fetch 10 = .ok (.if_icmp .ge 47, 3) := by decide +kernel
theorem dX8_fetch_13 : decode cX8_fetch 13 = .ok (.aload_n 0, 1) := by decide +kernel
theorem dX8_fetch_14 : decode cX8_fetch 14 = .ok (.getfield 73, 3) := by decide +kernel
theorem dX8_fetch_17 : decode cX8_fetch 17 = .ok (.iload_n 3, 1) := by decide +kernel
theorem dX8_fetch_18 : decode cX8_fetch 18 = .ok (.iaload, 1) := by decide +kernel
theorem dX8_fetch_19 : decode cX8_fetch 19 = .ok (.iload_n 1, 1) := by decide +kernel
theorem dX8_fetch_20 : decode cX8_fetch 20 = .ok (.if_icmp .ne 4, 3) := by decide +kernel
theorem dX8_fetch_23 : decode cX8_fetch 23 = .ok (.return_, 1) := by decide +kernel
theorem dX8_fetch_24 : decode cX8_fetch 24 = .ok (.aload_n 0, 1) := by decide +kernel
theorem dX8_fetch_25 : decode cX8_fetch 25 = .ok (.getfield 7, 3) := by decide +kernel
theorem dX8_fetch_28 : decode cX8_fetch 28 = .ok (.aload_n 0, 1) := by decide +kernel
theorem dX8_fetch_29 : decode cX8_fetch 29 = .ok (.getfield 73, 3) := by decide +kernel
theorem dX8_fetch_32 : decode cX8_fetch 32 = .ok (.iload_n 3, 1) := by decide +kernel
theorem dX8_fetch_33 : decode cX8_fetch 33 = .ok (.iaload, 1) := by decide +kernel
theorem dX8_fetch_34 : decode cX8_fetch 34 = .ok (.iaload, 1) := by decide +kernel
theorem dX8_fetch_35 : decode cX8_fetch 35 = .ok (.aload_n 0, 1) := by decide +kernel
theorem dX8_fetch_36 : decode cX8_fetch 36 = .ok (.getfield 7, 3) := by decide +kernel
theorem dX8_fetch_39 : decode cX8_fetch 39 = .ok (.iload_n 1, 1) := by decide +kernel
theorem dX8_fetch_40 : decode cX8_fetch 40 = .ok (.iaload, 1) := by decide +kernel
theorem dX8_fetch_41 : decode cX8_fetch 41 = .ok (.if_icmp .ne 8, 3) := by decide +kernel
theorem dX8_fetch_44 : decode cX8_fetch 44 = .ok (.bipush 9, 2) := by decide +kernel
theorem dX8_fetch_46 : decode cX8_fetch 46 = .ok (.goto 4, 3) := by decide +kernel
theorem dX8_fetch_49 : decode cX8_fetch 49 = .ok (.iload_n 2, 1) := by decide +kernel
theorem dX8_fetch_50 : decode cX8_fetch 50 = .ok (.istore_n 2, 1) := by decide +kernel
theorem dX8_fetch_51 : decode cX8_fetch 51 = .ok (.iinc 3 1, 3) := by decide +kernel
theorem dX8_fetch_54 : decode cX8_fetch 54 = .ok (.goto (-49), 3) := by decide +kernel
theorem dX8_fetch_57 : decode cX8_fetch 57 = .ok (.aload_n 0, 1) := by decide +kernel
theorem dX8_fetch_58 : decode cX8_fetch 58 = .ok (.getfield 73, 3) := by decide +kernel
theorem dX8_fetch_61 : decode cX8_fetch 61 = .ok (.aload_n 0, 1) := by decide +kernel
theorem dX8_fetch_62 : decode cX8_fetch 62 = .ok (.getfield 127, 3) := by decide +kernel
theorem dX8_fetch_65 : decode cX8_fetch 65 = .ok (.iload_n 1, 1) := by decide +kernel
theorem dX8_fetch_66 : decode cX8_fetch 66 = .ok (.iastore, 1) := by decide +kernel
theorem dX8_fetch_67 : decode cX8_fetch 67 = .ok (.aload_n 0, 1) := by decide +kernel
theorem dX8_fetch_68 : decode cX8_fetch 68 = .ok (.getfield 76, 3) := by decide +kernel
theorem dX8_fetch_71 : decode cX8_fetch 71 = .ok (.aload_n 0, 1) := by decide +kernel
theorem dX8_fetch_72 : decode cX8_fetch 72 = .ok (.getfield 127, 3) := by decide +kernel
theorem dX8_fetch_75 : decode cX8_fetch 75 = .ok (.aload_n 0, 1) := by decide +kernel
theorem dX8_fetch_76 : decode cX8_fetch 76 = .ok (.getfield 7, 3) := by decide +kernel
theorem dX8_fetch_79 : decode cX8_fetch 79 = .ok (.iload_n 1, 1) := by decide +kernel
theorem dX8_fetch_80 : decode cX8_fetch 80 = .ok (.iaload, 1) := by decide +kernel
theorem dX8_fetch_81 : decode cX8_fetch 81 = .ok (.iload_n 2, 1) := by decide +kernel
theorem dX8_fetch_82 : decode cX8_fetch 82 = .ok (.invokestatic 130, 3) := by decide +kernel
theorem dX8_fetch_85 : decode cX8_fetch 85 = .ok (.iastore, 1) := by decide +kernel
theorem dX8_fetch_86 : decode cX8_fetch 86 = .ok (.aload_n 0, 1) := by decide +kernel
theorem dX8_fetch_87 : decode cX8_fetch 87 = .ok (.dup, 1) := by decide +kernel
theorem dX8_fetch_88 : decode cX8_fetch 88 = .ok (.getfield 127, 3) := by decide +kernel
theorem dX8_fetch_91 : decode cX8_fetch 91 = .ok (.iconst 1, 1) := by decide +kernel
theorem dX8_fetch_92 : decode cX8_fetch 92 = .ok (.iadd, 1) := by decide +kernel
theorem dX8_fetch_93 : decode cX8_fetch 93 = .ok (.putfield 127, 3) := by decide +kernel
theorem dX8_fetch_96 : decode cX8_fetch 96 = .ok (.aload_n 0, 1) := by decide +kernel
theorem dX8_fetch_97 : decode cX8_fetch 97 = .ok (.bipush 11, 2) := by decide +kernel
theorem dX8_fetch_99 : decode cX8_fetch 99 = .ok (.aload_n 0, 1) := by decide +kernel
theorem dX8_fetch_100 : decode cX8_fetch 100 = .ok (.getfield 7, 3) := by decide +kernel
theorem dX8_fetch_103 : decode cX8_fetch 103 = .ok (.iload_n 1, 1) := by decide +kernel
theorem dX8_fetch_104 : decode cX8_fetch 104 = .ok (.iaload, 1) := by decide +kernel
theorem dX8_fetch_105 : decode cX8_fetch 105 = .ok (.iload_n 2, 1) := by decide +kernel
theorem dX8_fetch_106 : decode cX8_fetch 106 = .ok (.invokestatic 130, 3) := by decide +kernel
theorem dX8_fetch_109 : decode cX8_fetch 109 = .ok (.aload_n 0, 1) := by decide +kernel
theorem dX8_fetch_110 : decode cX8_fetch 110 = .ok (.getfield 46, 3) := by decide +kernel
theorem dX8_fetch_113 : decode cX8_fetch 113 = .ok (.iload_n 1, 1) := by decide +kernel
theorem dX8_fetch_114 : decode cX8_fetch 114 = .ok (.iaload, 1) := by decide +kernel
theorem dX8_fetch_115 : decode cX8_fetch 115 = .ok (.bipush 100, 2) := by decide +kernel
theorem dX8_fetch_117 : decode cX8_fetch 117 = .ok (.isub, 1) := by decide +kernel
theorem dX8_fetch_118 : decode cX8_fetch 118 = .ok (.iconst 0, 1) := by decide +kernel
theorem dX8_fetch_119 : decode cX8_fetch 119 = .ok (.invokevirtual 133, 3) := by decide +kernel
theorem dX8_fetch_122 : decode cX8_fetch 122 = .ok (.return_, 1) := by decide +kernel
theorem dX8_from_0 : decode cX8_from 0 = .ok (.aload_n 0, 1) := by decide +kernel
theorem dX8_from_1 : decode cX8_from 1 = .ok (.getfield 7, 3) := by decide +kernel
theorem dX8_from_4 : decode cX8_from 4 = .ok (.iload_n 1, 1) := by decide +kernel
theorem dX8_from_5 : decode cX8_from 5 = .ok (.iaload, 1) := by decide +kernel
theorem dX8_from_6 : decode cX8_from 6 = .ok (.aload_n 0, 1) := by decide +kernel
theorem dX8_from_7 : decode cX8_from 7 = .ok (.getfield 46, 3) := by decide +kernel
theorem dX8_from_10 : decode cX8_from 10 = .ok (.iload_n 1, 1) := by decide +kernel
theorem dX8_from_11 : decode cX8_from 11 = .ok (.iaload, 1) := by decide +kernel
theorem dX8_from_12 : decode cX8_from 12 = .ok (.invokestatic 130, 3) := by decide +kernel
theorem dX8_from_15 : decode cX8_from 15 = .ok (.istore_n 2, 1) := by decide +kernel
theorem dX8_from_16 : decode cX8_from 16 = .ok (.iconst 0, 1) := by decide +kernel
theorem dX8_from_17 : decode cX8_from 17 = .ok (.istore_n 3, 1) := by decide +kernel
theorem dX8_from_18 : decode cX8_from 18 = .ok (.iload_n 3, 1) := by decide +kernel
theorem dX8_from_19 : decode cX8_from 19 = .ok (.aload_n 0, 1) := by decide +kernel
theorem dX8_from_20 : decode cX8_from 20 = .ok (.getfield 127, 3) := by decide +kernel
theorem dX8_from_23 : decode cX8_from 23 = .ok (.if_icmp .ge 30, 3) := by decide +kernel
theorem dX8_from_26 : decode cX8_from 26 = .ok (.aload_n 0, 1) := by decide +kernel
theorem dX8_from_27 : decode cX8_from 27 = .ok (.getfield 73, 3) := by decide +kernel
theorem dX8_from_30 : decode cX8_from 30 = .ok (.iload_n 3, 1) := by decide +kernel
theorem dX8_from_31 : decode cX8_from 31 = .ok (.iaload, 1) := by decide +kernel
theorem dX8_from_32 : decode cX8_from 32 = .ok (.iload_n 1, 1) := by decide +kernel
theorem dX8_from_33 : decode cX8_from 33 = .ok (.if_icmp .ne 12, 3) := by decide +kernel
theorem dX8_from_36 : decode cX8_from 36 = .ok (.aload_n 0, 1) := by decide +kernel
theorem dX8_from_37 : decode cX8_from 37 = .ok (.getfield 76, 3) := by decide +kernel
theorem dX8_from_40 : decode cX8_from 40 = .ok (.iload_n 3, 1) := by decide +kernel
theorem dX8_from_41 : decode cX8_from 41 = .ok (.iaload, 1) := by decide +kernel
theorem dX8_from_42 : decode cX8_from 42 = .ok (.goto 4, 3) := by decide +kernel
theorem dX8_from_45 : decode cX8_from 45 = .ok (.iload_n 2, 1) := by decide +kernel
theorem dX8_from_46 : decode cX8_from 46 = .ok (.istore_n 2, 1) := by decide +kernel
theorem dX8_from_47 : decode cX8_from 47 = .ok (.iinc 3 1, 3) := by decide +kernel
theorem dX8_from_50 : decode cX8_from 50 = .ok (.goto (-32), 3) := by decide +kernel
theorem dX8_from_53 : decode cX8_from 53 = .ok (.iload_n 2, 1) := by decide +kernel
theorem dX8_from_54 : decode cX8_from 54 = .ok (.ireturn, 1) := by decide +kernel
theorem dX8_to_0 : decode cX8_to 0 = .ok (.aload_n 0, 1) := by decide +kernel
theorem dX8_to_1 : decode cX8_to 1 = .ok (.getfield 7, 3) := by decide +kernel
theorem dX8_to_4 : decode cX8_to 4 = .ok (.iload_n 1, 1) := by decide +kernel
theorem dX8_to_5 : decode cX8_to 5 = .ok (.iaload, 1) := by decide +kernel
theorem dX8_to_6 : decode cX8_to 6 = .ok (.aload_n 0, 1) := by decide +kernel
theorem dX8_to_7 : decode cX8_to 7 = .ok (.getfield 46, 3) := by decide +kernel
theorem dX8_to_10 : decode cX8_to 10 = .ok (.iload_n 1, 1) := by decide +kernel
theorem dX8_to_11 : decode cX8_to 11 = .ok (.iaload, 1) := by decide +kernel
theorem dX8_to_12 : decode cX8_to 12 = .ok (.bipush 100, 2) := by decide +kernel
theorem dX8_to_14 : decode cX8_to 14 = .ok (.if_icmp .lt 8, 3) := by decide +kernel
theorem dX8_to_17 : decode cX8_to 17 = .ok (.bipush 8, 2) := by decide +kernel
theorem dX8_to_19 : decode cX8_to 19 = .ok (.goto 9, 3) := by decide +kernel
theorem dX8_to_22 : decode cX8_to 22 = .ok (.aload_n 0, 1) := by decide +kernel
theorem dX8_to_23 : decode cX8_to 23 = .ok (.getfield 46, 3) := by decide +kernel
theorem dX8_to_26 : decode cX8_to 26 = .ok (.iload_n 1, 1) := by decide +kernel
theorem dX8_to_27 : decode cX8_to 27 = .ok (.iaload, 1) := by decide +kernel
theorem dX8_to_28 : decode cX8_to 28 = .ok (.invokestatic 130, 3) := by decide +kernel
theorem dX8_to_31 : decode cX8_to 31 = .ok (.ireturn, 1) := by decide +kernel
theorem dX8_makeStep_0 : decode cX8_makeStep 0 = .ok (.aload_n 0, 1) := by decide +kernel
theorem dX8_makeStep_1 : decode cX8_makeStep 1 = .ok (.getfield 13, 3) := by decide +kernel
theorem dX8_makeStep_4 : decode cX8_makeStep 4 = .ok (.iload_n 1, 1) := by decide +kernel
theorem dX8_makeStep_5 : decode cX8_makeStep 5 = .ok (.iaload, 1) := by decide +kernel
theorem dX8_makeStep_6 : decode cX8_makeStep 6 = .ok (.istore_n 2, 1) := by decide +kernel
theorem dX8_makeStep_7 : decode cX8_makeStep 7 = .ok (.aload_n 0, 1) := by decide +kernel
theorem dX8_makeStep_8 : decode cX8_makeStep 8 = .ok (.getfield 16, 3) := by decide +kernel
theorem dX8_makeStep_11 : decode cX8_makeStep 11 = .ok (.iload_n 1, 1) := by decide +kernel
theorem dX8_makeStep_12 : decode cX8_makeStep 12 = .ok (.iaload, 1) := by decide +kernel
theorem dX8_makeStep_13 : decode cX8_makeStep 13 = .ok (.istore_n 3, 1) := by decide +kernel
theorem dX8_makeStep_14 : decode cX8_makeStep 14 = .ok (.aload_n 0, 1) := by decide +kernel
theorem dX8_makeStep_15 : decode cX8_makeStep 15 = .ok (.getfield 19, 3) := by decide +kernel
theorem dX8_makeStep_18 : decode cX8_makeStep 18 = .ok (.iload_n 1, 1) := by decide +kernel
theorem dX8_makeStep_19 : decode cX8_makeStep 19 = .ok (.iaload, 1) := by decide +kernel
theorem dX8_makeStep_20 : decode cX8_makeStep 20 = .ok (.istore 4, 2) := by decide +kernel
theorem dX8_makeStep_22 : decode cX8_makeStep 22 = .ok (.aload_n 0, 1) := by decide +kernel
theorem dX8_makeStep_23 : decode cX8_makeStep 23 = .ok (.getfield 22, 3) := by decide +kernel
theorem dX8_makeStep_26 : decode cX8_makeStep 26 = .ok (.iload_n 1, 1) := by decide +kernel
theorem dX8_makeStep_27 : decode cX8_makeStep 27 = .ok (.iaload, 1) := by decide +kernel
theorem dX8_makeStep_28 : decode cX8_makeStep 28 = .ok (.istore 5, 2) := by decide +kernel
theorem dX8_makeStep_30 : decode cX8_makeStep 30 = .ok (.iload_n 2, 1) := by decide +kernel
theorem dX8_makeStep_31 : decode cX8_makeStep 31 = .ok (.iconst 1, 1) := by decide +kernel
theorem dX8_makeStep_32 : decode cX8_makeStep 32 = .ok (.if_icmp .ne 36, 3) := by decide +kernel
theorem dX8_makeStep_35 : decode cX8_makeStep 35 = .ok (.aload_n 0, 1) := by decide +kernel
theorem dX8_makeStep_36 : decode cX8_makeStep 36 = .ok (.getfield 7, 3) := by decide +kernel
theorem dX8_makeStep_39 : decode cX8_makeStep 39 = .ok (.iload_n 3, 1) := by decide +kernel
theorem dX8_makeStep_40 : decode cX8_makeStep 40 = .ok (.iaload, 1) := by decide +kernel
theorem dX8_makeStep_41 : decode cX8_makeStep 41 = .ok (.aload_n 0, 1) := by decide +kernel
theorem dX8_makeStep_42 : decode cX8_makeStep 42 = .ok (.getfield 7, 3) := by decide +kernel
theorem dX8_makeStep_45 : decode cX8_makeStep 45 = .ok (.iload 4, 2) := by decide +kernel
theorem dX8_makeStep_47 : decode cX8_makeStep 47 = .ok (.iaload, 1) := by decide +kernel
theorem dX8_makeStep_48 : decode cX8_makeStep 48 = .ok (.if_icmp .ne 20, 3) := by decide +kernel
theorem dX8_makeStep_51 : decode cX8_makeStep 51 = .ok (.aload_n 0, 1) := by decide +kernel
theorem dX8_makeStep_52 : decode cX8_makeStep 52 = .ok (.getfield 46, 3) := by decide +kernel
theorem dX8_makeStep_55 : decode cX8_makeStep 55 = .ok (.iload_n 3, 1) := by decide +kernel
theorem dX8_makeStep_56 : decode cX8_makeStep 56 = .ok (.iaload, 1) := by decide +kernel
theorem dX8_makeStep_57 : decode cX8_makeStep 57 = .ok (.aload_n 0, 1) := by decide +kernel
theorem dX8_makeStep_58 : decode cX8_makeStep 58 = .ok (.getfield 46, 3) := by decide +kernel
theorem dX8_makeStep_61 : decode cX8_makeStep 61 = .ok (.iload 4, 2) := by decide +kernel
theorem dX8_makeStep_63 : decode cX8_makeStep 63 = .ok (.iaload, 1) := by decide +kernel
theorem dX8_makeStep_64 : decode cX8_makeStep 64 = .ok (.if_icmp .ne 4, 3) := by decide +kernel
theorem dX8_makeStep_67 : decode cX8_makeStep 67 = .ok (.return_, 1) := by decide +kernel
theorem dX8_makeStep_68 : decode cX8_makeStep 68 = .ok (.aload_n 0, 1) := by decide +kernel
theorem dX8_makeStep_69 : decode cX8_makeStep 69 = .ok (.iconst 0, 1) := by decide +kernel
theorem dX8_makeStep_70 : decode cX8_makeStep 70 = .ok (.putfield 127, 3) := by decide +kernel
theorem dX8_makeStep_73 : decode cX8_makeStep 73 = .ok (.iconst 0, 1) := by decide +kernel
theorem dX8_makeStep_74 : decode cX8_makeStep 74 = .ok (.istore 6, 2) := by decide +kernel
theorem dX8_makeStep_76 : decode cX8_makeStep 76 = .ok (.iload 6, 2) := by decide +kernel
theorem dX8_makeStep_78 : decode cX8_makeStep 78 = .ok (.iconst 2, 1) := by decide +kernel
theorem dX8_makeStep_79 : decode cX8_makeStep 79 = .ok (.if_icmp .ge 42, 3) := by decide +kernel
theorem dX8_makeStep_82 : decode cX8_makeStep 82 = .ok (.aload_n 0, 1) := by decide +kernel
theorem dX8_makeStep_83 : decode cX8_makeStep 83 = .ok (.iload_n 1, 1) := by decide +kernel
theorem dX8_makeStep_84 : decode cX8_makeStep 84 = .ok (.iload 6, 2) := by decide +kernel
theorem dX8_makeStep_86 : decode cX8_makeStep 86 = .ok (.invokevirtual 98, 3) := by decide +kernel
theorem dX8_makeStep_89 : decode cX8_makeStep 89 = .ok (.istore 7, 2) := by decide +kernel
theorem dX8_makeStep_91 : decode cX8_makeStep 91 = .ok (.iload 7, 2) := by decide +kernel
end
section
theorem dX8_makeStep_93 : decode cX8_makeStep 93 = .ok (.iconst (-1), 1) := by decide +kernel
theorem dX8_makeStep_94 : decode cX8_makeStep 94 = .ok (.if_icmp .eq 21, 3) := by decide +kernel
theorem dX8_makeStep_97 : decode cX8_makeStep 97 = .ok (.aload_n 0, 1) := by decide +kernel
theorem dX8_makeStep_98 : decode cX8_makeStep 98 = .ok (.getfield 46, 3) := by decide +kernel
theorem dX8_makeStep_101 : decode cX8_makeStep 101 = .ok (.iload 7, 2) := by decide +kernel
theorem dX8_makeStep_103 : decode cX8_makeStep 103 = .ok (.iaload, 1) := by decide +kernel
theorem dX8_makeStep_104 : decode cX8_makeStep 104 = .ok (.bipush 100, 2) := by decide +kernel
theorem dX8_makeStep_106 : decode cX8_makeStep 106 = .ok (.if_icmp .lt 9, 3) := by decide +kernel
theorem dX8_makeStep_109 : decode cX8_makeStep 109 = .ok (.aload_n 0, 1) := by decide +kernel
theorem dX8_makeStep_110 : decode cX8_makeStep 110 = .ok (.iload 7, 2) := by decide +kernel
theorem dX8_makeStep_112 : decode cX8_makeStep 112 = .ok (.invokevirtual 137, 3) := by decide +kernel
theorem dX8_makeStep_115 : decode cX8_makeStep 115 = .ok (.iinc 6 1, 3) := by decide +kernel
theorem dX8_makeStep_118 : decode cX8_makeStep 118 = .ok (.goto (-42), 3) := by decide +kernel
theorem dX8_makeStep_121 : decode cX8_makeStep 121 = .ok (.iload_n 2, 1) := by decide +kernel
theorem dX8_makeStep_122 : decode cX8_makeStep 122 = .ok (.tableswitch 183 0 9 #[54, 70, 90, 90, 90, 115, 136, 136, 157, 168], 54) := by decide +kernel
theorem dX8_makeStep_176 : decode cX8_makeStep 176 = .ok (.aload_n 0, 1) := by decide +kernel
theorem dX8_makeStep_177 : decode cX8_makeStep 177 = .ok (.iload_n 2, 1) := by decide +kernel
theorem dX8_makeStep_178 : decode cX8_makeStep 178 = .ok (.aload_n 0, 1) := by decide +kernel
theorem dX8_makeStep_179 : decode cX8_makeStep 179 = .ok (.iload_n 3, 1) := by decide +kernel
theorem dX8_makeStep_180 : decode cX8_makeStep 180 = .ok (.invokevirtual 141, 3) := by decide +kernel
theorem dX8_makeStep_183 : decode cX8_makeStep 183 = .ok (.iload 4, 2) := by decide +kernel
theorem dX8_makeStep_185 : decode cX8_makeStep 185 = .ok (.iconst 0, 1) := by decide +kernel
theorem dX8_makeStep_186 : decode cX8_makeStep 186 = .ok (.invokevirtual 133, 3) := by decide +kernel
theorem dX8_makeStep_189 : decode cX8_makeStep 189 = .ok (.goto 124, 3) := by decide +kernel
theorem dX8_makeStep_192 : decode cX8_makeStep 192 = .ok (.aload_n 0, 1) := by decide +kernel
theorem dX8_makeStep_193 : decode cX8_makeStep 193 = .ok (.iload_n 2, 1) := by decide +kernel
theorem dX8_makeStep_194 : decode cX8_makeStep 194 = .ok (.aload_n 0, 1) := by decide +kernel
theorem dX8_makeStep_195 : decode cX8_makeStep 195 = .ok (.iload_n 3, 1) := by decide +kernel
theorem dX8_makeStep_196 : decode cX8_makeStep 196 = .ok (.invokevirtual 141, 3) := by decide +kernel
theorem dX8_makeStep_199 : decode cX8_makeStep 199 = .ok (.aload_n 0, 1) := by decide +kernel
theorem dX8_makeStep_200 : decode cX8_makeStep 200 = .ok (.iload 4, 2) := by decide +kernel
theorem dX8_makeStep_202 : decode cX8_makeStep 202 = .ok (.invokevirtual 144, 3) := by decide +kernel
theorem dX8_makeStep_205 : decode cX8_makeStep 205 = .ok (.iconst 0, 1) := by decide +kernel
theorem dX8_makeStep_206 : decode cX8_makeStep 206 = .ok (.invokevirtual 133, 3) := by decide +kernel
theorem dX8_makeStep_209 : decode cX8_makeStep 209 = .ok (.goto 104, 3) := by decide +kernel
theorem dX8_makeStep_212 : decode cX8_makeStep 212 = .ok (.aload_n 0, 1) := by decide +kernel
theorem dX8_makeStep_213 : decode cX8_makeStep 213 = .ok (.iload_n 2, 1) := by decide +kernel
theorem dX8_makeStep_214 : decode cX8_makeStep 214 = .ok (.aload_n 0, 1) := by decide +kernel
theorem dX8_makeStep_215 : decode cX8_makeStep 215 = .ok (.iload_n 3, 1) := by decide +kernel
theorem dX8_makeStep_216 : decode cX8_makeStep 216 = .ok (.invokevirtual 141, 3) := by decide +kernel
theorem dX8_makeStep_219 : decode cX8_makeStep 219 = .ok (.aload_n 0, 1) := by decide +kernel
theorem dX8_makeStep_220 : decode cX8_makeStep 220 = .ok (.iload 4, 2) := by decide +kernel
theorem dX8_makeStep_222 : decode cX8_makeStep 222 = .ok (.invokevirtual 144, 3) := by decide +kernel
theorem dX8_makeStep_225 : decode cX8_makeStep 225 = .ok (.aload_n 0, 1) := by decide +kernel
theorem dX8_makeStep_226 : decode cX8_makeStep 226 = .ok (.iload 5, 2) := by decide +kernel
theorem dX8_makeStep_228 : decode cX8_makeStep 228 = .ok (.invokevirtual 144, 3) := by decide +kernel
theorem dX8_makeStep_231 : decode cX8_makeStep 231 = .ok (.invokevirtual 133, 3) := by decide +kernel
theorem dX8_makeStep_234 : decode cX8_makeStep 234 = .ok (.goto 79, 3) := by decide +kernel
theorem dX8_makeStep_237 : decode cX8_makeStep 237 = .ok (.aload_n 0, 1) := by decide +kernel
theorem dX8_makeStep_238 : decode cX8_makeStep 238 = .ok (.iload_n 2, 1) := by decide +kernel
theorem dX8_makeStep_239 : decode cX8_makeStep 239 = .ok (.aload_n 0, 1) := by decide +kernel
theorem dX8_makeStep_240 : decode cX8_makeStep 240 = .ok (.iload_n 3, 1) := by decide +kernel
theorem dX8_makeStep_241 : decode cX8_makeStep 241 = .ok (.invokevirtual 141, 3) := by decide +kernel
theorem dX8_makeStep_244 : decode cX8_makeStep 244 = .ok (.aload_n 0, 1) := by decide +kernel
theorem dX8_makeStep_245 : decode cX8_makeStep 245 = .ok (.iload 4, 2) := by decide +kernel
theorem dX8_makeStep_247 : decode cX8_makeStep 247 = .ok (.invokevirtual 144, 3) := by decide +kernel
theorem dX8_makeStep_250 : decode cX8_makeStep 250 = .ok (.iload 5, 2) := by decide +kernel
theorem dX8_makeStep_252 : decode cX8_makeStep 252 = .ok (.invokevirtual 133, 3) := by decide +kernel
theorem dX8_makeStep_255 : decode cX8_makeStep 255 = .ok (.goto 58, 3) := by decide +kernel
theorem dX8_makeStep_258 : decode cX8_makeStep 258 = .ok (.aload_n 0, 1) := by decide +kernel
theorem dX8_makeStep_259 : decode cX8_makeStep 259 = .ok (.iload_n 2, 1) := by decide +kernel
theorem dX8_makeStep_260 : decode cX8_makeStep 260 = .ok (.aload_n 0, 1) := by decide +kernel
theorem dX8_makeStep_261 : decode cX8_makeStep 261 = .ok (.iload_n 3, 1) := by decide +kernel
theorem dX8_makeStep_262 : decode cX8_makeStep 262 = .ok (.invokevirtual 144, 3) := by decide +kernel
theorem dX8_makeStep_265 : decode cX8_makeStep 265 = .ok (.aload_n 0, 1) := by decide +kernel
theorem dX8_makeStep_266 : decode cX8_makeStep 266 = .ok (.iload 4, 2) := by decide +kernel
theorem dX8_makeStep_268 : decode cX8_makeStep 268 = .ok (.invokevirtual 144, 3) := by decide +kernel
theorem dX8_makeStep_271 : decode cX8_makeStep 271 = .ok (.iload 5, 2) := by decide +kernel
theorem dX8_makeStep_273 : decode cX8_makeStep 273 = .ok (.invokevirtual 133, 3) := by decide +kernel
theorem dX8_makeStep_276 : decode cX8_makeStep 276 = .ok (.goto 37, 3) := by decide +kernel
theorem dX8_makeStep_279 : decode cX8_makeStep 279 = .ok (.aload_n 0, 1) := by decide +kernel
theorem dX8_makeStep_280 : decode cX8_makeStep 280 = .ok (.iload_n 2, 1) := by decide +kernel
theorem dX8_makeStep_281 : decode cX8_makeStep 281 = .ok (.iload_n 3, 1) := by decide +kernel
theorem dX8_makeStep_282 : decode cX8_makeStep 282 = .ok (.iconst 0, 1) := by decide +kernel
theorem dX8_makeStep_283 : decode cX8_makeStep 283 = .ok (.iconst 0, 1) := by decide +kernel
theorem dX8_makeStep_284 : decode cX8_makeStep 284 = .ok (.invokevirtual 133, 3) := by decide +kernel
theorem dX8_makeStep_287 : decode cX8_makeStep 287 = .ok (.goto 26, 3) := by decide +kernel
theorem dX8_makeStep_290 : decode cX8_makeStep 290 = .ok (.aload_n 0, 1) := by decide +kernel
theorem dX8_makeStep_291 : decode cX8_makeStep 291 = .ok (.iload_n 2, 1) := by decide +kernel
theorem dX8_makeStep_292 : decode cX8_makeStep 292 = .ok (.aload_n 0, 1) := by decide +kernel
theorem dX8_makeStep_293 : decode cX8_makeStep 293 = .ok (.iload_n 3, 1) := by decide +kernel
theorem dX8_makeStep_294 : decode cX8_makeStep 294 = .ok (.invokevirtual 144, 3) := by decide +kernel
theorem dX8_makeStep_297 : decode cX8_makeStep 297 = .ok (.iconst 0, 1) := by decide +kernel
theorem dX8_makeStep_298 : decode cX8_makeStep 298 = .ok (.iconst 0, 1) := by decide +kernel
theorem dX8_makeStep_299 : decode cX8_makeStep 299 = .ok (.invokevirtual 133, 3) := by decide +kernel
theorem dX8_makeStep_302 : decode cX8_makeStep 302 = .ok (.goto 11, 3) := by decide +kernel
theorem dX8_makeStep_305 : decode cX8_makeStep 305 = .ok (.aload_n 0, 1) := by decide +kernel
theorem dX8_makeStep_306 : decode cX8_makeStep 306 = .ok (.iload_n 2, 1) := by decide +kernel
theorem dX8_makeStep_307 : decode cX8_makeStep 307 = .ok (.iconst 0, 1) := by decide +kernel
theorem dX8_makeStep_308 : decode cX8_makeStep 308 = .ok (.iconst 0, 1) := by decide +kernel
theorem dX8_makeStep_309 : decode cX8_makeStep 309 = .ok (.iconst 0, 1) := by decide +kernel
theorem dX8_makeStep_310 : decode cX8_makeStep 310 = .ok (.invokevirtual 133, 3) := by decide +kernel
theorem dX8_makeStep_313 : decode cX8_makeStep 313 = .ok (.aload_n 0, 1) := by decide +kernel
theorem dX8_makeStep_314 : decode cX8_makeStep 314 = .ok (.iload_n 1, 1) := by decide +kernel
theorem dX8_makeStep_315 : decode cX8_makeStep 315 = .ok (.invokevirtual 106, 3) := by decide +kernel
theorem dX8_makeStep_318 : decode cX8_makeStep 318 = .ok (.istore 6, 2) := by decide +kernel
theorem dX8_makeStep_320 : decode cX8_makeStep 320 = .ok (.iload 6, 2) := by decide +kernel
theorem dX8_makeStep_322 : decode cX8_makeStep 322 = .ok (.iconst (-1), 1) := by decide +kernel
theorem dX8_makeStep_323 : decode cX8_makeStep 323 = .ok (.if_icmp .eq 38, 3) := by decide +kernel
theorem dX8_makeStep_326 : decode cX8_makeStep 326 = .ok (.aload_n 0, 1) := by decide +kernel
theorem dX8_makeStep_327 : decode cX8_makeStep 327 = .ok (.getfield 46, 3) := by decide +kernel
theorem dX8_makeStep_330 : decode cX8_makeStep 330 = .ok (.iload 6, 2) := by decide +kernel
theorem dX8_makeStep_332 : decode cX8_makeStep 332 = .ok (.iaload, 1) := by decide +kernel
theorem dX8_makeStep_333 : decode cX8_makeStep 333 = .ok (.bipush 100, 2) := by decide +kernel
theorem dX8_makeStep_335 : decode cX8_makeStep 335 = .ok (.if_icmp .lt 26, 3) := by decide +kernel
theorem dX8_makeStep_338 : decode cX8_makeStep 338 = .ok (.aload_n 0, 1) := by decide +kernel
theorem dX8_makeStep_339 : decode cX8_makeStep 339 = .ok (.bipush 12, 2) := by decide +kernel
theorem dX8_makeStep_341 : decode cX8_makeStep 341 = .ok (.aload_n 0, 1) := by decide +kernel
theorem dX8_makeStep_342 : decode cX8_makeStep 342 = .ok (.iload 6, 2) := by decide +kernel
theorem dX8_makeStep_344 : decode cX8_makeStep 344 = .ok (.invokevirtual 141, 3) := by decide +kernel
theorem dX8_makeStep_347 : decode cX8_makeStep 347 = .ok (.aload_n 0, 1) := by decide +kernel
theorem dX8_makeStep_348 : decode cX8_makeStep 348 = .ok (.getfield 46, 3) := by decide +kernel
theorem dX8_makeStep_351 : decode cX8_makeStep 351 = .ok (.iload 6, 2) := by decide +kernel
theorem dX8_makeStep_353 : decode cX8_makeStep 353 = .ok (.iaload, 1) := by decide +kernel
theorem dX8_makeStep_354 : decode cX8_makeStep 354 = .ok (.bipush 100, 2) := by decide +kernel
theorem dX8_makeStep_356 : decode cX8_makeStep 356 = .ok (.isub, 1) := by decide +kernel
theorem dX8_makeStep_357 : decode cX8_makeStep 357 = .ok (.iconst 0, 1) := by decide +kernel
theorem dX8_makeStep_358 : decode cX8_makeStep 358 = .ok (.invokevirtual 133, 3) := by decide +kernel
theorem dX8_makeStep_361 : decode cX8_makeStep 361 = .ok (.return_, 1) := by decide +kernel
theorem dX8_makeCode_0 : decode cX8_makeCode 0 = .ok (.aload_n 0, 1) := by decide +kernel
theorem dX8_makeCode_1 : decode cX8_makeCode 1 = .ok (.invokevirtual 147, 3) := by decide +kernel
theorem dX8_makeCode_4 : decode cX8_makeCode 4 = .ok (.aload_n 0, 1) := by decide +kernel
theorem dX8_makeCode_5 : decode cX8_makeCode 5 = .ok (.getfield 52, 3) := by decide +kernel
theorem dX8_makeCode_8 : decode cX8_makeCode 8 = .ok (.iconst 0, 1) := by decide +kernel
theorem dX8_makeCode_9 : decode cX8_makeCode 9 = .ok (.iconst 0, 1) := by decide +kernel
theorem dX8_makeCode_10 : decode cX8_makeCode 10 = .ok (.iastore, 1) := by decide +kernel
theorem dX8_makeCode_11 : decode cX8_makeCode 11 = .ok (.iconst 0, 1) := by decide +kernel
theorem dX8_makeCode_12 : decode cX8_makeCode 12 = .ok (.istore_n 1, 1) := by decide +kernel
theorem dX8_makeCode_13 : decode cX8_makeCode 13 = .ok (.iload_n 1, 1) := by decide +kernel
theorem dX8_makeCode_14 : decode cX8_makeCode 14 = .ok (.aload_n 0, 1) := by decide +kernel
theorem dX8_makeCode_15 : decode cX8_makeCode 15 = .ok (.getfield 95, 3) := by decide +kernel
theorem dX8_makeCode_18 : decode cX8_makeCode 18 = .ok (.if_icmp .ge 26, 3) := by decide +kernel
theorem dX8_makeCode_21 : decode cX8_makeCode 21 = .ok (.aload_n 0, 1) := by decide +kernel
theorem dX8_makeCode_22 : decode cX8_makeCode 22 = .ok (.getfield 55, 3) := by decide +kernel
theorem dX8_makeCode_25 : decode cX8_makeCode 25 = .ok (.iload_n 1, 1) := by decide +kernel
theorem dX8_makeCode_26 : decode cX8_makeCode 26 = .ok (.aload_n 0, 1) := by decide +kernel
theorem dX8_makeCode_27 : decode cX8_makeCode 27 = .ok (.getfield 52, 3) := by decide +kernel
theorem dX8_makeCode_30 : decode cX8_makeCode 30 = .ok (.iconst 0, 1) := by decide +kernel
theorem dX8_makeCode_31 : decode cX8_makeCode 31 = .ok (.iaload, 1) := by decide +kernel
theorem dX8_makeCode_32 : decode cX8_makeCode 32 = .ok (.iastore, 1) := by decide +kernel
theorem dX8_makeCode_33 : decode cX8_makeCode 33 = .ok (.aload_n 0, 1) := by decide +kernel
theorem dX8_makeCode_34 : decode cX8_makeCode 34 = .ok (.iload_n 1, 1) := by decide +kernel
theorem dX8_makeCode_35 : decode cX8_makeCode 35 = .ok (.invokevirtual 150, 3) := by decide +kernel
theorem dX8_makeCode_38 : decode cX8_makeCode 38 = .ok (.iinc 1 1, 3) := by decide +kernel
theorem dX8_makeCode_41 : decode cX8_makeCode 41 = .ok (.goto (-28), 3) := by decide +kernel
theorem dX8_makeCode_44 : decode cX8_makeCode 44 = .ok (.iconst 0, 1) := by decide +kernel
theorem dX8_makeCode_45 : decode cX8_makeCode 45 = .ok (.istore_n 1, 1) := by decide +kernel
theorem dX8_makeCode_46 : decode cX8_makeCode 46 = .ok (.iload_n 1, 1) := by decide +kernel
theorem dX8_makeCode_47 : decode cX8_makeCode 47 = .ok (.aload_n 0, 1) := by decide +kernel
theorem dX8_makeCode_48 : decode cX8_makeCode 48 = .ok (.getfield 52, 3) := by decide +kernel
theorem dX8_makeCode_51 : decode cX8_makeCode 51 = .ok (.iconst 0, 1) := by decide +kernel
theorem dX8_makeCode_52 : decode cX8_makeCode 52 = .ok (.iaload, 1) := by decide +kernel
theorem dX8_makeCode_53 : decode cX8_makeCode 53 = .ok (.if_icmp .ge 97, 3) := by decide +kernel
theorem dX8_makeCode_56 : decode cX8_makeCode 56 = .ok (.iconst 4, 1) := by decide +kernel
theorem dX8_makeCode_57 : decode cX8_makeCode 57 = .ok (.iload_n 1, 1) := by decide +kernel
theorem dX8_makeCode_58 : decode cX8_makeCode 58 = .ok (.imul, 1) := by decide +kernel
theorem dX8_makeCode_59 : decode cX8_makeCode 59 = .ok (.aload_n 0, 1) := by decide +kernel
theorem dX8_makeCode_60 : decode cX8_makeCode 60 = .ok (.getfield 49, 3) := by decide +kernel
theorem dX8_makeCode_63 : decode cX8_makeCode 63 = .ok (.iconst 4, 1) := by decide +kernel
theorem dX8_makeCode_64 : decode cX8_makeCode 64 = .ok (.iload_n 1, 1) := by decide +kernel
theorem dX8_makeCode_65 : decode cX8_makeCode 65 = .ok (.imul, 1) := by decide +kernel
theorem dX8_makeCode_66 : decode cX8_makeCode 66 = .ok (.iaload, 1) := by decide +kernel
theorem dX8_makeCode_67 : decode cX8_makeCode 67 = .ok (.bipush 7, 2) := by decide +kernel
theorem dX8_makeCode_69 : decode cX8_makeCode 69 = .ok (.if_icmp .ne 7, 3) := by decide +kernel
theorem dX8_makeCode_72 : decode cX8_makeCode 72 = .ok (.iconst 3, 1) := by decide +kernel
theorem dX8_makeCode_73 : decode cX8_makeCode 73 = .ok (.goto 4, 3) := by decide +kernel
theorem dX8_makeCode_76 : decode cX8_makeCode 76 = .ok (.iconst 1, 1) := by decide +kernel
theorem dX8_makeCode_77 : decode cX8_makeCode 77 = .ok (.iadd, 1) := by decide +kernel
theorem dX8_makeCode_78 : decode cX8_makeCode 78 = .ok (.istore_n 2, 1) := by decide +kernel
theorem dX8_makeCode_79 : decode cX8_makeCode 79 = .ok (.aload_n 0, 1) := by decide +kernel
theorem dX8_makeCode_80 : decode cX8_makeCode 80 = .ok (.getfield 49, 3) := by decide +kernel
theorem dX8_makeCode_83 : decode cX8_makeCode 83 = .ok (.iconst 4, 1) := by decide +kernel
theorem dX8_makeCode_84 : decode cX8_makeCode 84 = .ok (.iload_n 1, 1) := by decide +kernel
theorem dX8_makeCode_85 : decode cX8_makeCode 85 = .ok (.imul, 1) := by decide +kernel
theorem dX8_makeCode_86 : decode cX8_makeCode 86 = .ok (.iaload, 1) := by decide +kernel
theorem dX8_makeCode_87 : decode cX8_makeCode 87 = .ok (.bipush 7, 2) := by decide +kernel
theorem dX8_makeCode_89 : decode cX8_makeCode 89 = .ok (.if_icmp .eq 16, 3) := by decide +kernel
theorem dX8_makeCode_92 : decode cX8_makeCode 92 = .ok (.aload_n 0, 1) := by decide +kernel
theorem dX8_makeCode_93 : decode cX8_makeCode 93 = .ok (.getfield 49, 3) := by decide +kernel
theorem dX8_makeCode_96 : decode cX8_makeCode 96 = .ok (.iconst 4, 1) := by decide +kernel
theorem dX8_makeCode_97 : decode cX8_makeCode 97 = .ok (.iload_n 1, 1) := by decide +kernel
theorem dX8_makeCode_98 : decode cX8_makeCode 98 = .ok (.imul, 1) := by decide +kernel
theorem dX8_makeCode_99 : decode cX8_makeCode 99 = .ok (.iaload, 1) := by decide +kernel
theorem dX8_makeCode_100 : decode cX8_makeCode 100 = .ok (.bipush 8, 2) := by decide +kernel
theorem dX8_makeCode_102 : decode cX8_makeCode 102 = .ok (.if_icmp .ne 42, 3) := by decide +kernel
theorem dX8_makeCode_105 : decode cX8_makeCode 105 = .ok (.aload_n 0, 1) := by decide +kernel
theorem dX8_makeCode_106 : decode cX8_makeCode 106 = .ok (.getfield 49, 3) := by decide +kernel
theorem dX8_makeCode_109 : decode cX8_makeCode 109 = .ok (.iload_n 2, 1) := by decide +kernel
theorem dX8_makeCode_110 : decode cX8_makeCode 110 = .ok (.aload_n 0, 1) := by decide +kernel
theorem dX8_makeCode_111 : decode cX8_makeCode 111 = .ok (.getfield 49, 3) := by decide +kernel
theorem dX8_makeCode_114 : decode cX8_makeCode 114 = .ok (.iload_n 2, 1) := by decide +kernel
theorem dX8_makeCode_115 : decode cX8_makeCode 115 = .ok (.iaload, 1) := by decide +kernel
theorem dX8_makeCode_116 : decode cX8_makeCode 116 = .ok (.aload_n 0, 1) := by decide +kernel
theorem dX8_makeCode_117 : decode cX8_makeCode 117 = .ok (.getfield 95, 3) := by decide +kernel
theorem dX8_makeCode_120 : decode cX8_makeCode 120 = .ok (.if_icmp .ge 17, 3) := by decide +kernel
theorem dX8_makeCode_123 : decode cX8_makeCode 123 = .ok (.aload_n 0, 1) := by decide +kernel
theorem dX8_makeCode_124 : decode cX8_makeCode 124 = .ok (.getfield 55, 3) := by decide +kernel
theorem dX8_makeCode_127 : decode cX8_makeCode 127 = .ok (.aload_n 0, 1) := by decide +kernel
theorem dX8_makeCode_128 : decode cX8_makeCode 128 = .ok (.getfield 49, 3) := by decide +kernel
theorem dX8_makeCode_131 : decode cX8_makeCode 131 = .ok (.iload_n 2, 1) := by decide +kernel
theorem dX8_makeCode_132 : decode cX8_makeCode 132 = .ok (.iaload, 1) := by decide +kernel
theorem dX8_makeCode_133 : decode cX8_makeCode 133 = .ok (.iaload, 1) := by decide +kernel
theorem dX8_makeCode_134 : decode cX8_makeCode 134 = .ok (.goto 9, 3) := by decide +kernel
theorem dX8_makeCode_137 : decode cX8_makeCode 137 = .ok (.aload_n 0, 1) := by decide +kernel
theorem dX8_makeCode_138 : decode cX8_makeCode 138 = .ok (.getfield 52, 3) := by decide +kernel
theorem dX8_makeCode_141 : decode cX8_makeCode 141 = .ok (.iconst 0, 1) := by decide +kernel
theorem dX8_makeCode_142 : decode cX8_makeCode 142 = .ok (.iaload, 1) := by decide +kernel
theorem dX8_makeCode_143 : decode cX8_makeCode 143 = .ok (.iastore, 1) := by decide +kernel
theorem dX8_makeCode_144 : decode cX8_makeCode 144 = .ok (.iinc 1 1, 3) := by decide +kernel
theorem dX8_makeCode_147 : decode cX8_makeCode 147 = .ok (.goto (-101), 3) := by decide +kernel
theorem dX8_makeCode_150 : decode cX8_makeCode 150 = .ok (.aload_n 0, 1) := by decide +kernel
theorem dX8_makeCode_151 : decode cX8_makeCode 151 = .ok (.getfield 52, 3) := by decide +kernel
theorem dX8_makeCode_154 : decode cX8_makeCode 154 = .ok (.iconst 1, 1) := by decide +kernel
theorem dX8_makeCode_155 : decode cX8_makeCode 155 = .ok (.aload_n 0, 1) := by decide +kernel
theorem dX8_makeCode_156 : decode cX8_makeCode 156 = .ok (.getfield 52, 3) := by decide +kernel
theorem dX8_makeCode_159 : decode cX8_makeCode 159 = .ok (.iconst 0, 1) := by decide +kernel
theorem dX8_makeCode_160 : decode cX8_makeCode 160 = .ok (.iaload, 1) := by decide +kernel
theorem dX8_makeCode_161 : decode cX8_makeCode 161 = .ok (.iastore, 1) := by decide +kernel
theorem dX8_makeCode_162 : decode cX8_makeCode 162 = .ok (.iconst 0, 1) := by decide +kernel
theorem dX8_makeCode_163 : decode cX8_makeCode 163 = .ok (.istore_n 1, 1) := by decide +kernel
theorem dX8_makeCode_164 : decode cX8_makeCode 164 = .ok (.iload_n 1, 1) := by decide +kernel
theorem dX8_makeCode_165 : decode cX8_makeCode 165 = .ok (.iconst 4, 1) := by decide +kernel
theorem dX8_makeCode_166 : decode cX8_makeCode 166 = .ok (.aload_n 0, 1) := by decide +kernel
theorem dX8_makeCode_167 : decode cX8_makeCode 167 = .ok (.getfield 52, 3) := by decide +kernel
theorem dX8_makeCode_170 : decode cX8_makeCode 170 = .ok (.iconst 0, 1) := by decide +kernel
theorem dX8_makeCode_171 : decode cX8_makeCode 171 = .ok (.iaload, 1) := by decide +kernel
theorem dX8_makeCode_172 : decode cX8_makeCode 172 = .ok (.imul, 1) := by decide +kernel
theorem dX8_makeCode_173 : decode cX8_makeCode 173 = .ok (.if_icmp .ge 25, 3) := by decide +kernel
theorem dX8_makeCode_176 : decode cX8_makeCode 176 = .ok (.aload_n 0, 1) := by decide +kernel
theorem dX8_makeCode_177 : decode cX8_makeCode 177 = .ok (.getfield 49, 3) := by decide +kernel
theorem dX8_makeCode_180 : decode cX8_makeCode 180 = .ok (.sipush 1600, 3) := by decide +kernel
theorem dX8_makeCode_183 : decode cX8_makeCode 183 = .ok (.iload_n 1, 1) := by decide +kernel
theorem dX8_makeCode_184 : decode cX8_makeCode 184 = .ok (.iadd, 1) := by decide +kernel
theorem dX8_makeCode_185 : decode cX8_makeCode 185 = .ok (.aload_n 0, 1) := by decide +kernel
theorem dX8_makeCode_186 : decode cX8_makeCode 186 = .ok (.getfield 49, 3) := by decide +kernel
theorem dX8_makeCode_189 : decode cX8_makeCode 189 = .ok (.iload_n 1, 1) := by decide +kernel
theorem dX8_makeCode_190 : decode cX8_makeCode 190 = .ok (.iaload, 1) := by decide +kernel
theorem dX8_makeCode_191 : decode cX8_makeCode 191 = .ok (.iastore, 1) := by decide +kernel
theorem dX8_makeCode_192 : decode cX8_makeCode 192 = .ok (.iinc 1 1, 3) := by decide +kernel
theorem dX8_makeCode_195 : decode cX8_makeCode 195 = .ok (.goto (-31), 3) := by decide +kernel
theorem dX8_makeCode_198 : decode cX8_makeCode 198 = .ok (.aload_n 0, 1) := by decide +kernel
theorem dX8_makeCode_199 : decode cX8_makeCode 199 = .ok (.invokevirtual 153, 3) := by decide +kernel
theorem dX8_makeCode_202 : decode cX8_makeCode 202 = .ok (.istore_n 1, 1) := by decide +kernel
theorem dX8_makeCode_203 : decode cX8_makeCode 203 = .ok (.iload_n 1, 1) := by decide +kernel
theorem dX8_makeCode_204 : decode cX8_makeCode 204 = .ok (.iconst (-1), 1) := by decide +kernel
theorem dX8_makeCode_205 : decode cX8_makeCode 205 = .ok (.if_icmp .eq 16, 3) := by decide +kernel
theorem dX8_makeCode_208 : decode cX8_makeCode 208 = .ok (.aload_n 0, 1) := by decide +kernel
theorem dX8_makeCode_209 : decode cX8_makeCode 209 = .ok (.iload_n 1, 1) := by decide +kernel
theorem dX8_makeCode_210 : decode cX8_makeCode 210 = .ok (.invokevirtual 157, 3) := by decide +kernel
theorem dX8_makeCode_213 : decode cX8_makeCode 213 = .ok (.aload_n 0, 1) := by decide +kernel
theorem dX8_makeCode_214 : decode cX8_makeCode 214 = .ok (.invokevirtual 153, 3) := by decide +kernel
theorem dX8_makeCode_217 : decode cX8_makeCode 217 = .ok (.istore_n 1, 1) := by decide +kernel
theorem dX8_makeCode_218 : decode cX8_makeCode 218 = .ok (.goto (-15), 3) := by decide +kernel
theorem dX8_makeCode_221 : decode cX8_makeCode 221 = .ok (.return_, 1) := by decide +kernel
theorem dX8_leads_0 : decode cX8_leads 0 = .ok (.aload_n 0, 1) := by decide +kernel
theorem dX8_leads_1 : decode cX8_leads 1 = .ok (.getfield 49, 3) := by decide +kernel
theorem dX8_leads_4 : decode cX8_leads 4 = .ok (.sipush 1600, 3) := by decide +kernel
theorem dX8_leads_7 : decode cX8_leads 7 = .ok (.iconst 4, 1) := by decide +kernel
theorem dX8_leads_8 : decode cX8_leads 8 = .ok (.iload_n 1, 1) := by decide +kernel
theorem dX8_leads_9 : decode cX8_leads 9 = .ok (.imul, 1) := by decide +kernel
theorem dX8_leads_10 : decode cX8_leads 10 = .ok (.iadd, 1) := by decide +kernel
theorem dX8_leads_11 : decode cX8_leads 11 = .ok (.iaload, 1) := by decide +kernel
theorem dX8_leads_12 : decode cX8_leads 12 = .ok (.istore_n 2, 1) := by decide +kernel
theorem dX8_leads_13 : decode cX8_leads 13 = .ok (.iload_n 2, 1) := by decide +kernel
theorem dX8_leads_14 : decode cX8_leads 14 = .ok (.bipush 7, 2) := by decide +kernel
theorem dX8_leads_16 : decode cX8_leads 16 = .ok (.if_icmp .ne 20, 3) := by decide +kernel
theorem dX8_leads_19 : decode cX8_leads 19 = .ok (.aload_n 0, 1) := by decide +kernel
theorem dX8_leads_20 : decode cX8_leads 20 = .ok (.getfield 49, 3) := by decide +kernel
theorem dX8_leads_23 : decode cX8_leads 23 = .ok (.sipush 1600, 3) := by decide +kernel
theorem dX8_leads_26 : decode cX8_leads 26 = .ok (.iconst 4, 1) := by decide +kernel
theorem dX8_leads_27 : decode cX8_leads 27 = .ok (.iload_n 1, 1) := by decide +kernel
theorem dX8_leads_28 : decode cX8_leads 28 = .ok (.imul, 1) := by decide +kernel
theorem dX8_leads_29 : decode cX8_leads 29 = .ok (.iadd, 1) := by decide +kernel
theorem dX8_leads_30 : decode cX8_leads 30 = .ok (.iconst 3, 1) := by decide +kernel
theorem dX8_leads_31 : decode cX8_leads 31 = .ok (.iadd, 1) := by decide +kernel
theorem dX8_leads_32 : decode cX8_leads 32 = .ok (.iaload, 1) := by decide +kernel
theorem dX8_leads_33 : decode cX8_leads 33 = .ok (.goto 27, 3) := by decide +kernel
theorem dX8_leads_36 : decode cX8_leads 36 = .ok (.iload_n 2, 1) := by decide +kernel
theorem dX8_leads_37 : decode cX8_leads 37 = .ok (.bipush 8, 2) := by decide +kernel
theorem dX8_leads_39 : decode cX8_leads 39 = .ok (.if_icmp .ne 20, 3) := by decide +kernel
theorem dX8_leads_42 : decode cX8_leads 42 = .ok (.aload_n 0, 1) := by decide +kernel
theorem dX8_leads_43 : decode cX8_leads 43 = .ok (.getfield 49, 3) := by decide +kernel
theorem dX8_leads_46 : decode cX8_leads 46 = .ok (.sipush 1600, 3) := by decide +kernel
theorem dX8_leads_49 : decode cX8_leads 49 = .ok (.iconst 4, 1) := by decide +kernel
theorem dX8_leads_50 : decode cX8_leads 50 = .ok (.iload_n 1, 1) := by decide +kernel
theorem dX8_leads_51 : decode cX8_leads 51 = .ok (.imul, 1) := by decide +kernel
theorem dX8_leads_52 : decode cX8_leads 52 = .ok (.iadd, 1) := by decide +kernel
theorem dX8_leads_53 : decode cX8_leads 53 = .ok (.iconst 1, 1) := by decide +kernel
theorem dX8_leads_54 : decode cX8_leads 54 = .ok (.iadd, 1) := by decide +kernel
theorem dX8_leads_55 : decode cX8_leads 55 = .ok (.iaload, 1) := by decide +kernel
theorem dX8_leads_56 : decode cX8_leads 56 = .ok (.goto 4, 3) := by decide +kernel
theorem dX8_leads_59 : decode cX8_leads 59 = .ok (.iconst (-1), 1) := by decide +kernel
theorem dX8_leads_60 : decode cX8_leads 60 = .ok (.ireturn, 1) := by decide +kernel
theorem dX8_isLedTo_0 : decode cX8_isLedTo 0 = .ok (.iconst 0, 1) := by decide +kernel
theorem dX8_isLedTo_1 : decode cX8_isLedTo 1 = .ok (.istore_n 2, 1) := by decide +kernel
theorem dX8_isLedTo_2 : decode cX8_isLedTo 2 = .ok (.iconst 0, 1) := by decide +kernel
theorem dX8_isLedTo_3 : decode cX8_isLedTo 3 = .ok (.istore_n 3, 1) := by decide +kernel
theorem dX8_isLedTo_4 : decode cX8_isLedTo 4 = .ok (.iload_n 3, 1) := by decide +kernel
theorem dX8_isLedTo_5 : decode cX8_isLedTo 5 = .ok (.aload_n 0, 1) := by decide +kernel
theorem dX8_isLedTo_6 : decode cX8_isLedTo 6 = .ok (.getfield 52, 3) := by decide +kernel
theorem dX8_isLedTo_9 : decode cX8_isLedTo 9 = .ok (.iconst 1, 1) := by decide +kernel
theorem dX8_isLedTo_10 : decode cX8_isLedTo 10 = .ok (.iaload, 1) := by decide +kernel
theorem dX8_isLedTo_11 : decode cX8_isLedTo 11 = .ok (.if_icmp .ge 28, 3) := by decide +kernel
theorem dX8_isLedTo_14 : decode cX8_isLedTo 14 = .ok (.iload_n 2, 1) := by decide +kernel
theorem dX8_isLedTo_15 : decode cX8_isLedTo 15 = .ok (.ifCond .ne 12, 3) := by decide +kernel
theorem dX8_isLedTo_18 : decode cX8_isLedTo 18 = .ok (.aload_n 0, 1) := by decide +kernel
theorem dX8_isLedTo_19 : decode cX8_isLedTo 19 = .ok (.iload_n 3, 1) := by decide +kernel
theorem dX8_isLedTo_20 : decode cX8_isLedTo 20 = .ok (.invokevirtual 160, 3) := by decide +kernel
theorem dX8_isLedTo_23 : decode cX8_isLedTo 23 = .ok (.iload_n 1, 1) := by decide +kernel
theorem dX8_isLedTo_24 : decode cX8_isLedTo 24 = .ok (.if_icmp .ne 7, 3) := by decide +kernel
theorem dX8_isLedTo_27 : decode cX8_isLedTo 27 = .ok (.iconst 1, 1) := by decide +kernel
theorem dX8_isLedTo_28 : decode cX8_isLedTo 28 = .ok (.goto 4, 3) := by decide +kernel
theorem dX8_isLedTo_31 : decode cX8_isLedTo 31 = .ok (.iconst 0, 1) := by decide +kernel
theorem dX8_isLedTo_32 : decode cX8_isLedTo 32 = .ok (.istore_n 2, 1) := by decide +kernel
theorem dX8_isLedTo_33 : decode cX8_isLedTo 33 = .ok (.iinc 3 1, 3) := by decide +kernel
theorem dX8_isLedTo_36 : decode cX8_isLedTo 36 = .ok (.goto (-32), 3) := by decide +kernel
theorem dX8_isLedTo_39 : decode cX8_isLedTo 39 = .ok (.iload_n 2, 1) := by decide +kernel
theorem dX8_isLedTo_40 : decode cX8_isLedTo 40 = .ok (.ireturn, 1) := by decide +kernel
theorem dX8_needless_0 : decode cX8_needless 0 = .ok (.iconst 0, 1) := by decide +kernel
theorem dX8_needless_1 : decode cX8_needless 1 = .ok (.istore_n 1, 1) := by decide +kernel
theorem dX8_needless_2 : decode cX8_needless 2 = .ok (.iload_n 1, 1) := by decide +kernel
theorem dX8_needless_3 : decode cX8_needless 3 = .ok (.aload_n 0, 1) := by decide +kernel
theorem dX8_needless_4 : decode cX8_needless 4 = .ok (.getfield 52, 3) := by decide +kernel
theorem dX8_needless_7 : decode cX8_needless 7 = .ok (.iconst 1, 1) := by decide +kernel
theorem dX8_needless_8 : decode cX8_needless 8 = .ok (.iaload, 1) := by decide +kernel
theorem dX8_needless_9 : decode cX8_needless 9 = .ok (.if_icmp .ge 165, 3) := by decide +kernel
theorem dX8_needless_12 : decode cX8_needless 12 = .ok (.sipush 1600, 3) := by decide +kernel
theorem dX8_needless_15 : decode cX8_needless 15 = .ok (.iconst 4, 1) := by decide +kernel
theorem dX8_needless_16 : decode cX8_needless 16 = .ok (.iload_n 1, 1) := by decide +kernel
theorem dX8_needless_17 : decode cX8_needless 17 = .ok (.imul, 1) := by decide +kernel
theorem dX8_needless_18 : decode cX8_needless 18 = .ok (.iadd, 1) := by decide +kernel
theorem dX8_needless_19 : decode cX8_needless 19 = .ok (.istore_n 2, 1) := by decide +kernel
theorem dX8_needless_20 : decode cX8_needless 20 = .ok (.aload_n 0, 1) := by decide +kernel
theorem dX8_needless_21 : decode cX8_needless 21 = .ok (.getfield 49, 3) := by decide +kernel
theorem dX8_needless_24 : decode cX8_needless 24 = .ok (.iload_n 2, 1) := by decide +kernel
theorem dX8_needless_25 : decode cX8_needless 25 = .ok (.iaload, 1) := by decide +kernel
theorem dX8_needless_26 : decode cX8_needless 26 = .ok (.bipush 8, 2) := by decide +kernel
theorem dX8_needless_28 : decode cX8_needless 28 = .ok (.if_icmp .ne 18, 3) := by decide +kernel
theorem dX8_needless_31 : decode cX8_needless 31 = .ok (.aload_n 0, 1) := by decide +kernel
theorem dX8_needless_32 : decode cX8_needless 32 = .ok (.iload_n 1, 1) := by decide +kernel
theorem dX8_needless_33 : decode cX8_needless 33 = .ok (.invokevirtual 160, 3) := by decide +kernel
theorem dX8_needless_36 : decode cX8_needless 36 = .ok (.iload_n 1, 1) := by decide +kernel
theorem dX8_needless_37 : decode cX8_needless 37 = .ok (.iconst 1, 1) := by decide +kernel
theorem dX8_needless_38 : decode cX8_needless 38 = .ok (.iadd, 1) := by decide +kernel
theorem dX8_needless_39 : decode cX8_needless 39 = .ok (.if_icmp .ne 7, 3) := by decide +kernel
theorem dX8_needless_42 : decode cX8_needless 42 = .ok (.iconst 1, 1) := by decide +kernel
theorem dX8_needless_43 : decode cX8_needless 43 = .ok (.goto 4, 3) := by decide +kernel
theorem dX8_needless_46 : decode cX8_needless 46 = .ok (.iconst 0, 1) := by decide +kernel
theorem dX8_needless_47 : decode cX8_needless 47 = .ok (.istore_n 3, 1) := by decide +kernel
theorem dX8_needless_48 : decode cX8_needless 48 = .ok (.iload_n 1, 1) := by decide +kernel
theorem dX8_needless_49 : decode cX8_needless 49 = .ok (.ifCond .le 113, 3) := by decide +kernel
theorem dX8_needless_52 : decode cX8_needless 52 = .ok (.iload_n 3, 1) := by decide +kernel
theorem dX8_needless_53 : decode cX8_needless 53 = .ok (.ifCond .ne 109, 3) := by decide +kernel
theorem dX8_needless_56 : decode cX8_needless 56 = .ok (.aload_n 0, 1) := by decide +kernel
theorem dX8_needless_57 : decode cX8_needless 57 = .ok (.getfield 49, 3) := by decide +kernel
theorem dX8_needless_60 : decode cX8_needless 60 = .ok (.iload_n 2, 1) := by decide +kernel
theorem dX8_needless_61 : decode cX8_needless 61 = .ok (.iconst 4, 1) := by decide +kernel
theorem dX8_needless_62 : decode cX8_needless 62 = .ok (.isub, 1) := by decide +kernel
theorem dX8_needless_63 : decode cX8_needless 63 = .ok (.iaload, 1) := by decide +kernel
theorem dX8_needless_64 : decode cX8_needless 64 = .ok (.istore 4, 2) := by decide +kernel
theorem dX8_needless_66 : decode cX8_needless 66 = .ok (.aload_n 0, 1) := by decide +kernel
theorem dX8_needless_67 : decode cX8_needless 67 = .ok (.getfield 49, 3) := by decide +kernel
theorem dX8_needless_70 : decode cX8_needless 70 = .ok (.iload_n 2, 1) := by decide +kernel
theorem dX8_needless_71 : decode cX8_needless 71 = .ok (.iaload, 1) := by decide +kernel
theorem dX8_needless_72 : decode cX8_needless 72 = .ok (.bipush 11, 2) := by decide +kernel
theorem dX8_needless_74 : decode cX8_needless 74 = .ok (.if_icmp .ne 52, 3) := by decide +kernel
theorem dX8_needless_77 : decode cX8_needless 77 = .ok (.iload 4, 2) := by decide +kernel
theorem dX8_needless_79 : decode cX8_needless 79 = .ok (.bipush 12, 2) := by decide +kernel
theorem dX8_needless_81 : decode cX8_needless 81 = .ok (.if_icmp .ne 45, 3) := by decide +kernel
theorem dX8_needless_84 : decode cX8_needless 84 = .ok (.aload_n 0, 1) := by decide +kernel
theorem dX8_needless_85 : decode cX8_needless 85 = .ok (.getfield 49, 3) := by decide +kernel
theorem dX8_needless_88 : decode cX8_needless 88 = .ok (.iload_n 2, 1) := by decide +kernel
theorem dX8_needless_89 : decode cX8_needless 89 = .ok (.iconst 1, 1) := by decide +kernel
theorem dX8_needless_90 : decode cX8_needless 90 = .ok (.iadd, 1) := by decide +kernel
theorem dX8_needless_91 : decode cX8_needless 91 = .ok (.iaload, 1) := by decide +kernel
theorem dX8_needless_92 : decode cX8_needless 92 = .ok (.aload_n 0, 1) := by decide +kernel
theorem dX8_needless_93 : decode cX8_needless 93 = .ok (.getfield 49, 3) := by decide +kernel
theorem dX8_needless_96 : decode cX8_needless 96 = .ok (.iload_n 2, 1) := by decide +kernel
theorem dX8_needless_97 : decode cX8_needless 97 = .ok (.iconst 3, 1) := by decide +kernel
theorem dX8_needless_98 : decode cX8_needless 98 = .ok (.isub, 1) := by decide +kernel
theorem dX8_needless_99 : decode cX8_needless 99 = .ok (.iaload, 1) := by decide +kernel
theorem dX8_needless_100 : decode cX8_needless 100 = .ok (.if_icmp .ne 26, 3) := by decide +kernel
theorem dX8_needless_103 : decode cX8_needless 103 = .ok (.aload_n 0, 1) := by decide +kernel
theorem dX8_needless_104 : decode cX8_needless 104 = .ok (.getfield 49, 3) := by decide +kernel
theorem dX8_needless_107 : decode cX8_needless 107 = .ok (.iload_n 2, 1) := by decide +kernel
theorem dX8_needless_108 : decode cX8_needless 108 = .ok (.iconst 2, 1) := by decide +kernel
theorem dX8_needless_109 : decode cX8_needless 109 = .ok (.iadd, 1) := by decide +kernel
theorem dX8_needless_110 : decode cX8_needless 110 = .ok (.iaload, 1) := by decide +kernel
theorem dX8_needless_111 : decode cX8_needless 111 = .ok (.aload_n 0, 1) := by decide +kernel
theorem dX8_needless_112 : decode cX8_needless 112 = .ok (.getfield 49, 3) := by decide +kernel
theorem dX8_needless_115 : decode cX8_needless 115 = .ok (.iload_n 2, 1) := by decide +kernel
theorem dX8_needless_116 : decode cX8_needless 116 = .ok (.iconst 2, 1) := by decide +kernel
theorem dX8_needless_117 : decode cX8_needless 117 = .ok (.isub, 1) := by decide +kernel
theorem dX8_needless_118 : decode cX8_needless 118 = .ok (.iaload, 1) := by decide +kernel
theorem dX8_needless_119 : decode cX8_needless 119 = .ok (.if_icmp .ne 7, 3) := by decide +kernel
theorem dX8_needless_122 : decode cX8_needless 122 = .ok (.iconst 1, 1) := by decide +kernel
theorem dX8_needless_123 : decode cX8_needless 123 = .ok (.goto 4, 3) := by decide +kernel
theorem dX8_needless_126 : decode cX8_needless 126 = .ok (.iconst 0, 1) := by decide +kernel
theorem dX8_needless_127 : decode cX8_needless 127 = .ok (.istore 5, 2) := by decide +kernel
theorem dX8_needless_129 : decode cX8_needless 129 = .ok (.iload 5, 2) := by decide +kernel
theorem dX8_needless_131 : decode cX8_needless 131 = .ok (.ifCond .ne 17, 3) := by decide +kernel
theorem dX8_needless_134 : decode cX8_needless 134 = .ok (.iload 4, 2) := by decide +kernel
theorem dX8_needless_136 : decode cX8_needless 136 = .ok (.bipush 8, 2) := by decide +kernel
theorem dX8_needless_138 : decode cX8_needless 138 = .ok (.if_icmp .eq 10, 3) := by decide +kernel
theorem dX8_needless_141 : decode cX8_needless 141 = .ok (.iload 4, 2) := by decide +kernel
theorem dX8_needless_143 : decode cX8_needless 143 = .ok (.bipush 10, 2) := by decide +kernel
theorem dX8_needless_145 : decode cX8_needless 145 = .ok (.if_icmp .ne 15, 3) := by decide +kernel
theorem dX8_needless_148 : decode cX8_needless 148 = .ok (.aload_n 0, 1) := by decide +kernel
theorem dX8_needless_149 : decode cX8_needless 149 = .ok (.iload_n 1, 1) := by decide +kernel
theorem dX8_needless_150 : decode cX8_needless 150 = .ok (.invokevirtual 163, 3) := by decide +kernel
theorem dX8_needless_153 : decode cX8_needless 153 = .ok (.ifCond .ne 7, 3) := by decide +kernel
theorem dX8_needless_156 : decode cX8_needless 156 = .ok (.iconst 1, 1) := by decide +kernel
theorem dX8_needless_157 : decode cX8_needless 157 = .ok (.goto 4, 3) := by decide +kernel
theorem dX8_needless_160 : decode cX8_needless 160 = .ok (.iconst 0, 1) := by decide +kernel
theorem dX8_needless_161 : decode cX8_needless 161 = .ok (.istore_n 3, 1) := by decide +kernel
theorem dX8_needless_162 : decode cX8_needless 162 = .ok (.iload_n 3, 1) := by decide +kernel
theorem dX8_needless_163 : decode cX8_needless 163 = .ok (.ifCond .eq 5, 3) := by decide +kernel
theorem dX8_needless_166 : decode cX8_needless 166 = .ok (.iload_n 1, 1) := by decide +kernel
theorem dX8_needless_167 : decode cX8_needless 167 = .ok (.ireturn, 1) := by decide +kernel
theorem dX8_needless_168 : decode cX8_needless 168 = .ok (.iinc 1 1, 3) := by decide +kernel
theorem dX8_needless_171 : decode cX8_needless 171 = .ok (.goto (-169), 3) := by decide +kernel
theorem dX8_needless_174 : decode cX8_needless 174 = .ok (.iconst (-1), 1) := by decide +kernel
theorem dX8_needless_175 : decode cX8_needless 175 = .ok (.ireturn, 1) := by decide +kernel
theorem dX8_take_0 : decode cX8_take 0 = .ok (.aload_n 0, 1) := by decide +kernel
theorem dX8_take_1 : decode cX8_take 1 = .ok (.getfield 52, 3) := by decide +kernel
theorem dX8_take_4 : decode cX8_take 4 = .ok (.iconst 1, 1) := by decide +kernel
theorem dX8_take_5 : decode cX8_take 5 = .ok (.dup2, 1) := by decide +kernel
theorem dX8_take_6 : decode cX8_take 6 = .ok (.iaload, 1) := by decide +kernel
theorem dX8_take_7 : decode cX8_take 7 = .ok (.iconst 1, 1) := by decide +kernel
theorem dX8_take_8 : decode cX8_take 8 = .ok (.isub, 1) := by decide +kernel
theorem dX8_take_9 : decode cX8_take 9 = .ok (.iastore, 1) := by decide +kernel
theorem dX8_take_10 : decode cX8_take 10 = .ok (.sipush 1600, 3) := by decide +kernel
theorem dX8_take_13 : decode cX8_take 13 = .ok (.iconst 4, 1) := by decide +kernel
theorem dX8_take_14 : decode cX8_take 14 = .ok (.iload_n 1, 1) := by decide +kernel
theorem dX8_take_15 : decode cX8_take 15 = .ok (.imul, 1) := by decide +kernel
theorem dX8_take_16 : decode cX8_take 16 = .ok (.iadd, 1) := by decide +kernel
theorem dX8_take_17 : decode cX8_take 17 = .ok (.istore_n 2, 1) := by decide +kernel
theorem dX8_take_18 : decode cX8_take 18 = .ok (.iload_n 2, 1) := by decide +kernel
theorem dX8_take_19 : decode cX8_take 19 = .ok (.sipush 1600, 3) := by decide +kernel
theorem dX8_take_22 : decode cX8_take 22 = .ok (.iconst 4, 1) := by decide +kernel
theorem dX8_take_23 : decode cX8_take 23 = .ok (.aload_n 0, 1) := by decide +kernel
theorem dX8_take_24 : decode cX8_take 24 = .ok (.getfield 52, 3) := by decide +kernel
theorem dX8_take_27 : decode cX8_take 27 = .ok (.iconst 1, 1) := by decide +kernel
theorem dX8_take_28 : decode cX8_take 28 = .ok (.iaload, 1) := by decide +kernel
theorem dX8_take_29 : decode cX8_take 29 = .ok (.imul, 1) := by decide +kernel
theorem dX8_take_30 : decode cX8_take 30 = .ok (.iadd, 1) := by decide +kernel
theorem dX8_take_31 : decode cX8_take 31 = .ok (.if_icmp .ge 23, 3) := by decide +kernel
theorem dX8_take_34 : decode cX8_take 34 = .ok (.aload_n 0, 1) := by decide +kernel
theorem dX8_take_35 : decode cX8_take 35 = .ok (.getfield 49, 3) := by decide +kernel
theorem dX8_take_38 : decode cX8_take 38 = .ok (.iload_n 2, 1) := by decide +kernel
theorem dX8_take_39 : decode cX8_take 39 = .ok (.aload_n 0, 1) := by decide +kernel
theorem dX8_take_40 : decode cX8_take 40 = .ok (.getfield 49, 3) := by decide +kernel
theorem dX8_take_43 : decode cX8_take 43 = .ok (.iload_n 2, 1) := by decide +kernel
theorem dX8_take_44 : decode cX8_take 44 = .ok (.iconst 4, 1) := by decide +kernel
theorem dX8_take_45 : decode cX8_take 45 = .ok (.iadd, 1) := by decide +kernel
theorem dX8_take_46 : decode cX8_take 46 = .ok (.iaload, 1) := by decide +kernel
theorem dX8_take_47 : decode cX8_take 47 = .ok (.iastore, 1) := by decide +kernel
theorem dX8_take_48 : decode cX8_take 48 = .ok (.iinc 2 1, 3) := by decide +kernel
theorem dX8_take_51 : decode cX8_take 51 = .ok (.goto (-33), 3) := by decide +kernel
theorem dX8_take_54 : decode cX8_take 54 = .ok (.iconst 0, 1) := by decide +kernel
theorem dX8_take_55 : decode cX8_take 55 = .ok (.istore_n 2, 1) := by decide +kernel
theorem dX8_take_56 : decode cX8_take 56 = .ok (.iload_n 2, 1) := by decide +kernel
theorem dX8_take_57 : decode cX8_take 57 = .ok (.aload_n 0, 1) := by decide +kernel
theorem dX8_take_58 : decode cX8_take 58 = .ok (.getfield 52, 3) := by decide +kernel
theorem dX8_take_61 : decode cX8_take 61 = .ok (.iconst 1, 1) := by decide +kernel
theorem dX8_take_62 : decode cX8_take 62 = .ok (.iaload, 1) := by decide +kernel
theorem dX8_take_63 : decode cX8_take 63 = .ok (.if_icmp .ge 53, 3) := by decide +kernel
theorem dX8_take_66 : decode cX8_take 66 = .ok (.sipush 1600, 3) := by decide +kernel
theorem dX8_take_69 : decode cX8_take 69 = .ok (.iconst 4, 1) := by decide +kernel
theorem dX8_take_70 : decode cX8_take 70 = .ok (.iload_n 2, 1) := by decide +kernel
theorem dX8_take_71 : decode cX8_take 71 = .ok (.imul, 1) := by decide +kernel
theorem dX8_take_72 : decode cX8_take 72 = .ok (.iadd, 1) := by decide +kernel
theorem dX8_take_73 : decode cX8_take 73 = .ok (.istore_n 3, 1) := by decide +kernel
theorem dX8_take_74 : decode cX8_take 74 = .ok (.aload_n 0, 1) := by decide +kernel
theorem dX8_take_75 : decode cX8_take 75 = .ok (.iload_n 2, 1) := by decide +kernel
theorem dX8_take_76 : decode cX8_take 76 = .ok (.invokevirtual 160, 3) := by decide +kernel
theorem dX8_take_79 : decode cX8_take 79 = .ok (.iload_n 1, 1) := by decide +kernel
theorem dX8_take_80 : decode cX8_take 80 = .ok (.if_icmp .le 30, 3) := by decide +kernel
theorem dX8_take_83 : decode cX8_take 83 = .ok (.aload_n 0, 1) := by decide +kernel
theorem dX8_take_84 : decode cX8_take 84 = .ok (.getfield 49, 3) := by decide +kernel
theorem dX8_take_87 : decode cX8_take 87 = .ok (.iload_n 3, 1) := by decide +kernel
theorem dX8_take_88 : decode cX8_take 88 = .ok (.aload_n 0, 1) := by decide +kernel
theorem dX8_take_89 : decode cX8_take 89 = .ok (.getfield 49, 3) := by decide +kernel
theorem dX8_take_92 : decode cX8_take 92 = .ok (.iload_n 3, 1) := by decide +kernel
theorem dX8_take_93 : decode cX8_take 93 = .ok (.iaload, 1) := by decide +kernel
theorem dX8_take_94 : decode cX8_take 94 = .ok (.bipush 7, 2) := by decide +kernel
theorem dX8_take_96 : decode cX8_take 96 = .ok (.if_icmp .ne 7, 3) := by decide +kernel
theorem dX8_take_99 : decode cX8_take 99 = .ok (.iconst 3, 1) := by decide +kernel
theorem dX8_take_100 : decode cX8_take 100 = .ok (.goto 4, 3) := by decide +kernel
theorem dX8_take_103 : decode cX8_take 103 = .ok (.iconst 1, 1) := by decide +kernel
theorem dX8_take_104 : decode cX8_take 104 = .ok (.iadd, 1) := by decide +kernel
theorem dX8_take_105 : decode cX8_take 105 = .ok (.dup2, 1) := by decide +kernel
theorem dX8_take_106 : decode cX8_take 106 = .ok (.iaload, 1) := by decide +kernel
theorem dX8_take_107 : decode cX8_take 107 = .ok (.iconst 1, 1) := by decide +kernel
theorem dX8_take_108 : decode cX8_take 108 = .ok (.isub, 1) := by decide +kernel
theorem dX8_take_109 : decode cX8_take 109 = .ok (.iastore, 1) := by decide +kernel
theorem dX8_take_110 : decode cX8_take 110 = .ok (.iinc 2 1, 3) := by decide +kernel
theorem dX8_take_113 : decode cX8_take 113 = .ok (.goto (-57), 3) := by decide +kernel
theorem dX8_take_116 : decode cX8_take 116 = .ok (.return_, 1) := by decide +kernel
theorem dX8_live_0 : decode cX8_live 0 = .ok (.iload_n 1, 1) := by decide +kernel
theorem dX8_live_1 : decode cX8_live 1 = .ok (.ifCond .lt 11, 3) := by decide +kernel
theorem dX8_live_4 : decode cX8_live 4 = .ok (.iload_n 1, 1) := by decide +kernel
theorem dX8_live_5 : decode cX8_live 5 = .ok (.aload_n 0, 1) := by decide +kernel
theorem dX8_live_6 : decode cX8_live 6 = .ok (.getfield 95, 3) := by decide +kernel
theorem dX8_live_9 : decode cX8_live 9 = .ok (.if_icmp .lt 5, 3) := by decide +kernel
theorem dX8_live_12 : decode cX8_live 12 = .ok (.iconst (-1), 1) := by decide +kernel
theorem dX8_live_13 : decode cX8_live 13 = .ok (.ireturn, 1) := by decide +kernel
theorem dX8_live_14 : decode cX8_live 14 = .ok (.aload_n 0, 1) := by decide +kernel
theorem dX8_live_15 : decode cX8_live 15 = .ok (.invokevirtual 118, 3) := by decide +kernel
theorem dX8_live_18 : decode cX8_live 18 = .ok (.aload_n 0, 1) := by decide +kernel
theorem dX8_live_19 : decode cX8_live 19 = .ok (.getfield 31, 3) := by decide +kernel
theorem dX8_live_22 : decode cX8_live 22 = .ok (.iload_n 1, 1) := by decide +kernel
theorem dX8_live_23 : decode cX8_live 23 = .ok (.iaload, 1) := by decide +kernel
theorem dX8_live_24 : decode cX8_live 24 = .ok (.ireturn, 1) := by decide +kernel
theorem dX8_inWay_0 : decode cX8_inWay 0 = .ok (.aload_n 0, 1) := by decide +kernel
theorem dX8_inWay_1 : decode cX8_inWay 1 = .ok (.iload_n 1, 1) := by decide +kernel
theorem dX8_inWay_2 : decode cX8_inWay 2 = .ok (.invokevirtual 83, 3) := by decide +kernel
theorem dX8_inWay_5 : decode cX8_inWay 5 = .ok (.ifCond .ne 5, 3) := by decide +kernel
theorem dX8_inWay_8 : decode cX8_inWay 8 = .ok (.iconst (-1), 1) := by decide +kernel
theorem dX8_inWay_9 : decode cX8_inWay 9 = .ok (.ireturn, 1) := by decide +kernel
theorem dX8_inWay_10 : decode cX8_inWay 10 = .ok (.aload_n 0, 1) := by decide +kernel
theorem dX8_inWay_11 : decode cX8_inWay 11 = .ok (.invokevirtual 118, 3) := by decide +kernel
theorem dX8_inWay_14 : decode cX8_inWay 14 = .ok (.aload_n 0, 1) := by decide +kernel
theorem dX8_inWay_15 : decode cX8_inWay 15 = .ok (.invokevirtual 121, 3) := by decide +kernel
theorem dX8_inWay_18 : decode cX8_inWay 18 = .ok (.aload_n 0, 1) := by decide +kernel
theorem dX8_inWay_19 : decode cX8_inWay 19 = .ok (.getfield 37, 3) := by decide +kernel
theorem dX8_inWay_22 : decode cX8_inWay 22 = .ok (.iload_n 1, 1) := by decide +kernel
theorem dX8_inWay_23 : decode cX8_inWay 23 = .ok (.iaload, 1) := by decide +kernel
theorem dX8_inWay_24 : decode cX8_inWay 24 = .ok (.ireturn, 1) := by decide +kernel
theorem dX8_weight_0 : decode cX8_weight 0 = .ok (.aload_n 0, 1) := by decide +kernel
theorem dX8_weight_1 : decode cX8_weight 1 = .ok (.iload_n 1, 1) := by decide +kernel
theorem dX8_weight_2 : decode cX8_weight 2 = .ok (.invokevirtual 83, 3) := by decide +kernel
theorem dX8_weight_5 : decode cX8_weight 5 = .ok (.ifCond .ne 5, 3) := by decide +kernel
theorem dX8_weight_8 : decode cX8_weight 8 = .ok (.iconst (-1), 1) := by decide +kernel
theorem dX8_weight_9 : decode cX8_weight 9 = .ok (.ireturn, 1) := by decide +kernel
theorem dX8_weight_10 : decode cX8_weight 10 = .ok (.aload_n 0, 1) := by decide +kernel
theorem dX8_weight_11 : decode cX8_weight 11 = .ok (.invokevirtual 118, 3) := by decide +kernel
theorem dX8_weight_14 : decode cX8_weight 14 = .ok (.aload_n 0, 1) := by decide +kernel
theorem dX8_weight_15 : decode cX8_weight 15 = .ok (.invokevirtual 121, 3) := by decide +kernel
theorem dX8_weight_18 : decode cX8_weight 18 = .ok (.aload_n 0, 1) := by decide +kernel
theorem dX8_weight_19 : decode cX8_weight 19 = .ok (.getfield 40, 3) := by decide +kernel
theorem dX8_weight_22 : decode cX8_weight 22 = .ok (.iload_n 1, 1) := by decide +kernel
theorem dX8_weight_23 : decode cX8_weight 23 = .ok (.iaload, 1) := by decide +kernel
theorem dX8_weight_24 : decode cX8_weight 24 = .ok (.ireturn, 1) := by decide +kernel
theorem dX8_home_0 : decode cX8_home 0 = .ok (.aload_n 0, 1) := by decide +kernel
theorem dX8_home_1 : decode cX8_home 1 = .ok (.iload_n 1, 1) := by decide +kernel
theorem dX8_home_2 : decode cX8_home 2 = .ok (.invokevirtual 83, 3) := by decide +kernel
theorem dX8_home_5 : decode cX8_home 5 = .ok (.ifCond .ne 5, 3) := by decide +kernel
theorem dX8_home_8 : decode cX8_home 8 = .ok (.iconst (-1), 1) := by decide +kernel
theorem dX8_home_9 : decode cX8_home 9 = .ok (.ireturn, 1) := by decide +kernel
theorem dX8_home_10 : decode cX8_home 10 = .ok (.aload_n 0, 1) := by decide +kernel
theorem dX8_home_11 : decode cX8_home 11 = .ok (.invokevirtual 147, 3) := by decide +kernel
theorem dX8_home_14 : decode cX8_home 14 = .ok (.aload_n 0, 1) := by decide +kernel
theorem dX8_home_15 : decode cX8_home 15 = .ok (.getfield 46, 3) := by decide +kernel
theorem dX8_home_18 : decode cX8_home 18 = .ok (.iload_n 1, 1) := by decide +kernel
theorem dX8_home_19 : decode cX8_home 19 = .ok (.iaload, 1) := by decide +kernel
theorem dX8_home_20 : decode cX8_home 20 = .ok (.ireturn, 1) := by decide +kernel
theorem dX8_order_0 : decode cX8_order 0 = .ok (.iload_n 1, 1) := by decide +kernel
theorem dX8_order_1 : decode cX8_order 1 = .ok (.ifCond .lt 11, 3) := by decide +kernel
theorem dX8_order_4 : decode cX8_order 4 = .ok (.iload_n 1, 1) := by decide +kernel
theorem dX8_order_5 : decode cX8_order 5 = .ok (.aload_n 0, 1) := by decide +kernel
theorem dX8_order_6 : decode cX8_order 6 = .ok (.getfield 79, 3) := by decide +kernel
theorem dX8_order_9 : decode cX8_order 9 = .ok (.if_icmp .lt 5, 3) := by decide +kernel
theorem dX8_order_12 : decode cX8_order 12 = .ok (.iconst (-1), 1) := by decide +kernel
theorem dX8_order_13 : decode cX8_order 13 = .ok (.ireturn, 1) := by decide +kernel
theorem dX8_order_14 : decode cX8_order 14 = .ok (.aload_n 0, 1) := by decide +kernel
theorem dX8_order_15 : decode cX8_order 15 = .ok (.invokevirtual 147, 3) := by decide +kernel
theorem dX8_order_18 : decode cX8_order 18 = .ok (.aload_n 0, 1) := by decide +kernel
theorem dX8_order_19 : decode cX8_order 19 = .ok (.getfield 43, 3) := by decide +kernel
theorem dX8_order_22 : decode cX8_order 22 = .ok (.iload_n 1, 1) := by decide +kernel
theorem dX8_order_23 : decode cX8_order 23 = .ok (.iaload, 1) := by decide +kernel
theorem dX8_order_24 : decode cX8_order 24 = .ok (.ireturn, 1) := by decide +kernel
theorem dX8_slotsOf_0 : decode cX8_slotsOf 0 = .ok (.aload_n 0, 1) := by decide +kernel
theorem dX8_slotsOf_1 : decode cX8_slotsOf 1 = .ok (.invokevirtual 147, 3) := by decide +kernel
theorem dX8_slotsOf_4 : decode cX8_slotsOf 4 = .ok (.iconst 0, 1) := by decide +kernel
theorem dX8_slotsOf_5 : decode cX8_slotsOf 5 = .ok (.istore_n 2, 1) := by decide +kernel
theorem dX8_slotsOf_6 : decode cX8_slotsOf 6 = .ok (.bipush 100, 2) := by decide +kernel
theorem dX8_slotsOf_8 : decode cX8_slotsOf 8 = .ok (.istore_n 3, 1) := by decide +kernel
theorem dX8_slotsOf_9 : decode cX8_slotsOf 9 = .ok (.iload_n 3, 1) := by decide +kernel
theorem dX8_slotsOf_10 : decode cX8_slotsOf 10 = .ok (.bipush 124, 2) := by decide +kernel
theorem dX8_slotsOf_12 : decode cX8_slotsOf 12 = .ok (.if_icmp .ge 77, 3) := by decide +kernel
theorem dX8_slotsOf_15 : decode cX8_slotsOf 15 = .ok (.iconst 0, 1) := by decide +kernel
theorem dX8_slotsOf_16 : decode cX8_slotsOf 16 = .ok (.istore 4, 2) := by decide +kernel
theorem dX8_slotsOf_18 : decode cX8_slotsOf 18 = .ok (.iconst 0, 1) := by decide +kernel
theorem dX8_slotsOf_19 : decode cX8_slotsOf 19 = .ok (.istore 5, 2) := by decide +kernel
theorem dX8_slotsOf_21 : decode cX8_slotsOf 21 = .ok (.iload 5, 2) := by decide +kernel
theorem dX8_slotsOf_23 : decode cX8_slotsOf 23 = .ok (.aload_n 0, 1) := by decide +kernel
theorem dX8_slotsOf_24 : decode cX8_slotsOf 24 = .ok (.getfield 79, 3) := by decide +kernel
theorem dX8_slotsOf_27 : decode cX8_slotsOf 27 = .ok (.if_icmp .ge 43, 3) := by decide +kernel
theorem dX8_slotsOf_30 : decode cX8_slotsOf 30 = .ok (.iload 4, 2) := by decide +kernel
theorem dX8_slotsOf_32 : decode cX8_slotsOf 32 = .ok (.ifCond .ne 25, 3) := by decide +kernel
theorem dX8_slotsOf_35 : decode cX8_slotsOf 35 = .ok (.aload_n 0, 1) := by decide +kernel
theorem dX8_slotsOf_36 : decode cX8_slotsOf 36 = .ok (.getfield 7, 3) := by decide +kernel
theorem dX8_slotsOf_39 : decode cX8_slotsOf 39 = .ok (.iload 5, 2) := by decide +kernel
theorem dX8_slotsOf_41 : decode cX8_slotsOf 41 = .ok (.iaload, 1) := by decide +kernel
theorem dX8_slotsOf_42 : decode cX8_slotsOf 42 = .ok (.iload_n 1, 1) := by decide +kernel
theorem dX8_slotsOf_43 : decode cX8_slotsOf 43 = .ok (.if_icmp .ne 18, 3) := by decide +kernel
theorem dX8_slotsOf_46 : decode cX8_slotsOf 46 = .ok (.aload_n 0, 1) := by decide +kernel
theorem dX8_slotsOf_47 : decode cX8_slotsOf 47 = .ok (.getfield 46, 3) := by decide +kernel
theorem dX8_slotsOf_50 : decode cX8_slotsOf 50 = .ok (.iload 5, 2) := by decide +kernel
end
section
theorem dX8_slotsOf_52 : decode cX8_slotsOf 52 = .ok (.iaload, 1) := by decide +kernel
theorem dX8_slotsOf_53 : decode cX8_slotsOf 53 = .ok (.iload_n 3, 1) := by decide +kernel
theorem dX8_slotsOf_54 : decode cX8_slotsOf 54 = .ok (.if_icmp .ne 7, 3) := by decide +kernel
theorem dX8_slotsOf_57 : decode cX8_slotsOf 57 = .ok (.iconst 1, 1) := by decide +kernel
theorem dX8_slotsOf_58 : decode cX8_slotsOf 58 = .ok (.goto 4, 3) := by decide +kernel
theorem dX8_slotsOf_61 : decode cX8_slotsOf 61 = .ok (.iconst 0, 1) := by decide +kernel
theorem dX8_slotsOf_62 : decode cX8_slotsOf 62 = .ok (.istore 4, 2) := by decide +kernel
theorem dX8_slotsOf_64 : decode cX8_slotsOf 64 = .ok (.iinc 5 1, 3) := by decide +kernel
theorem dX8_slotsOf_67 : decode cX8_slotsOf 67 = .ok (.goto (-46), 3) := by decide +kernel
theorem dX8_slotsOf_70 : decode cX8_slotsOf 70 = .ok (.iload_n 2, 1) := by decide +kernel
theorem dX8_slotsOf_71 : decode cX8_slotsOf 71 = .ok (.iload 4, 2) := by decide +kernel
theorem dX8_slotsOf_73 : decode cX8_slotsOf 73 = .ok (.ifCond .eq 7, 3) := by decide +kernel
theorem dX8_slotsOf_76 : decode cX8_slotsOf 76 = .ok (.iconst 1, 1) := by decide +kernel
theorem dX8_slotsOf_77 : decode cX8_slotsOf 77 = .ok (.goto 4, 3) := by decide +kernel
theorem dX8_slotsOf_80 : decode cX8_slotsOf 80 = .ok (.iconst 0, 1) := by decide +kernel
theorem dX8_slotsOf_81 : decode cX8_slotsOf 81 = .ok (.iadd, 1) := by decide +kernel
theorem dX8_slotsOf_82 : decode cX8_slotsOf 82 = .ok (.istore_n 2, 1) := by decide +kernel
theorem dX8_slotsOf_83 : decode cX8_slotsOf 83 = .ok (.iinc 3 1, 3) := by decide +kernel
theorem dX8_slotsOf_86 : decode cX8_slotsOf 86 = .ok (.goto (-77), 3) := by decide +kernel
theorem dX8_slotsOf_89 : decode cX8_slotsOf 89 = .ok (.iload_n 2, 1) := by decide +kernel
theorem dX8_slotsOf_90 : decode cX8_slotsOf 90 = .ok (.ireturn, 1) := by decide +kernel
theorem dX8_count_0 : decode cX8_count 0 = .ok (.iload_n 1, 1) := by decide +kernel
theorem dX8_count_1 : decode cX8_count 1 = .ok (.tableswitch 70 0 5 #[39, 44, 49, 49, 62, 62], 39) := by decide +kernel
theorem dX8_count_40 : decode cX8_count 40 = .ok (.aload_n 0, 1) := by decide +kernel
theorem dX8_count_41 : decode cX8_count 41 = .ok (.getfield 79, 3) := by decide +kernel
theorem dX8_count_44 : decode cX8_count 44 = .ok (.ireturn, 1) := by decide +kernel
theorem dX8_count_45 : decode cX8_count 45 = .ok (.aload_n 0, 1) := by decide +kernel
theorem dX8_count_46 : decode cX8_count 46 = .ok (.getfield 95, 3) := by decide +kernel
theorem dX8_count_49 : decode cX8_count 49 = .ok (.ireturn, 1) := by decide +kernel
theorem dX8_count_50 : decode cX8_count 50 = .ok (.aload_n 0, 1) := by decide +kernel
theorem dX8_count_51 : decode cX8_count 51 = .ok (.invokevirtual 166, 3) := by decide +kernel
theorem dX8_count_54 : decode cX8_count 54 = .ok (.aload_n 0, 1) := by decide +kernel
theorem dX8_count_55 : decode cX8_count 55 = .ok (.getfield 52, 3) := by decide +kernel
theorem dX8_count_58 : decode cX8_count 58 = .ok (.iload_n 1, 1) := by decide +kernel
theorem dX8_count_59 : decode cX8_count 59 = .ok (.iconst 2, 1) := by decide +kernel
theorem dX8_count_60 : decode cX8_count 60 = .ok (.isub, 1) := by decide +kernel
theorem dX8_count_61 : decode cX8_count 61 = .ok (.iaload, 1) := by decide +kernel
theorem dX8_count_62 : decode cX8_count 62 = .ok (.ireturn, 1) := by decide +kernel
theorem dX8_count_63 : decode cX8_count 63 = .ok (.aload_n 0, 1) := by decide +kernel
theorem dX8_count_64 : decode cX8_count 64 = .ok (.iload_n 1, 1) := by decide +kernel
theorem dX8_count_65 : decode cX8_count 65 = .ok (.iconst 4, 1) := by decide +kernel
theorem dX8_count_66 : decode cX8_count 66 = .ok (.isub, 1) := by decide +kernel
theorem dX8_count_67 : decode cX8_count 67 = .ok (.invokevirtual 169, 3) := by decide +kernel
theorem dX8_count_70 : decode cX8_count 70 = .ok (.ireturn, 1) := by decide +kernel
theorem dX8_count_71 : decode cX8_count 71 = .ok (.iconst (-1), 1) := by decide +kernel
theorem dX8_count_72 : decode cX8_count 72 = .ok (.ireturn, 1) := by decide +kernel
theorem dX8_item_0 : decode cX8_item 0 = .ok (.iload_n 1, 1) := by decide +kernel
theorem dX8_item_1 : decode cX8_item 1 = .ok (.iconst 1, 1) := by decide +kernel
theorem dX8_item_2 : decode cX8_item 2 = .ok (.if_icmp .lt 17, 3) := by decide +kernel
theorem dX8_item_5 : decode cX8_item 5 = .ok (.iload_n 1, 1) := by decide +kernel
theorem dX8_item_6 : decode cX8_item 6 = .ok (.iconst 2, 1) := by decide +kernel
theorem dX8_item_7 : decode cX8_item 7 = .ok (.if_icmp .gt 12, 3) := by decide +kernel
theorem dX8_item_10 : decode cX8_item 10 = .ok (.iload_n 3, 1) := by decide +kernel
theorem dX8_item_11 : decode cX8_item 11 = .ok (.ifCond .lt 8, 3) := by decide +kernel
theorem dX8_item_14 : decode cX8_item 14 = .ok (.iload_n 3, 1) := by decide +kernel
theorem dX8_item_15 : decode cX8_item 15 = .ok (.iconst 3, 1) := by decide +kernel
theorem dX8_item_16 : decode cX8_item 16 = .ok (.if_icmp .le 5, 3) := by decide +kernel
theorem dX8_item_19 : decode cX8_item 19 = .ok (.iconst (-1), 1) := by decide +kernel
theorem dX8_item_20 : decode cX8_item 20 = .ok (.ireturn, 1) := by decide +kernel
theorem dX8_item_21 : decode cX8_item 21 = .ok (.aload_n 0, 1) := by decide +kernel
theorem dX8_item_22 : decode cX8_item 22 = .ok (.invokevirtual 166, 3) := by decide +kernel
theorem dX8_item_25 : decode cX8_item 25 = .ok (.iload_n 2, 1) := by decide +kernel
theorem dX8_item_26 : decode cX8_item 26 = .ok (.ifCond .lt 15, 3) := by decide +kernel
theorem dX8_item_29 : decode cX8_item 29 = .ok (.iload_n 2, 1) := by decide +kernel
theorem dX8_item_30 : decode cX8_item 30 = .ok (.aload_n 0, 1) := by decide +kernel
theorem dX8_item_31 : decode cX8_item 31 = .ok (.getfield 52, 3) := by decide +kernel
theorem dX8_item_34 : decode cX8_item 34 = .ok (.iload_n 1, 1) := by decide +kernel
theorem dX8_item_35 : decode cX8_item 35 = .ok (.iconst 1, 1) := by decide +kernel
theorem dX8_item_36 : decode cX8_item 36 = .ok (.isub, 1) := by decide +kernel
theorem dX8_item_37 : decode cX8_item 37 = .ok (.iaload, 1) := by decide +kernel
theorem dX8_item_38 : decode cX8_item 38 = .ok (.if_icmp .lt 7, 3) := by decide +kernel
theorem dX8_item_41 : decode cX8_item 41 = .ok (.iconst (-1), 1) := by decide +kernel
theorem dX8_item_42 : decode cX8_item 42 = .ok (.goto 21, 3) := by decide +kernel
theorem dX8_item_45 : decode cX8_item 45 = .ok (.aload_n 0, 1) := by decide +kernel
theorem dX8_item_46 : decode cX8_item 46 = .ok (.getfield 49, 3) := by decide +kernel
theorem dX8_item_49 : decode cX8_item 49 = .ok (.sipush 1600, 3) := by decide +kernel
theorem dX8_item_52 : decode cX8_item 52 = .ok (.iload_n 1, 1) := by decide +kernel
theorem dX8_item_53 : decode cX8_item 53 = .ok (.iconst 1, 1) := by decide +kernel
theorem dX8_item_54 : decode cX8_item 54 = .ok (.isub, 1) := by decide +kernel
theorem dX8_item_55 : decode cX8_item 55 = .ok (.imul, 1) := by decide +kernel
theorem dX8_item_56 : decode cX8_item 56 = .ok (.iconst 4, 1) := by decide +kernel
theorem dX8_item_57 : decode cX8_item 57 = .ok (.iload_n 2, 1) := by decide +kernel
theorem dX8_item_58 : decode cX8_item 58 = .ok (.imul, 1) := by decide +kernel
theorem dX8_item_59 : decode cX8_item 59 = .ok (.iadd, 1) := by decide +kernel
theorem dX8_item_60 : decode cX8_item 60 = .ok (.iload_n 3, 1) := by decide +kernel
theorem dX8_item_61 : decode cX8_item 61 = .ok (.iadd, 1) := by decide +kernel
theorem dX8_item_62 : decode cX8_item 62 = .ok (.iaload, 1) := by decide +kernel
theorem dX8_item_63 : decode cX8_item 63 = .ok (.ireturn, 1) := by decide +kernel
theorem dX8_begin_0 : decode cX8_begin 0 = .ok (.aload_n 0, 1) := by decide +kernel
theorem dX8_begin_1 : decode cX8_begin 1 = .ok (.iconst 0, 1) := by decide +kernel
theorem dX8_begin_2 : decode cX8_begin 2 = .ok (.putfield 172, 3) := by decide +kernel
theorem dX8_begin_5 : decode cX8_begin 5 = .ok (.aload_n 0, 1) := by decide +kernel
theorem dX8_begin_6 : decode cX8_begin 6 = .ok (.iconst 0, 1) := by decide +kernel
theorem dX8_begin_7 : decode cX8_begin 7 = .ok (.putfield 175, 3) := by decide +kernel
theorem dX8_begin_10 : decode cX8_begin 10 = .ok (.iconst 0, 1) := by decide +kernel
theorem dX8_begin_11 : decode cX8_begin 11 = .ok (.istore_n 1, 1) := by decide +kernel
theorem dX8_begin_12 : decode cX8_begin 12 = .ok (.iload_n 1, 1) := by decide +kernel
theorem dX8_begin_13 : decode cX8_begin 13 = .ok (.bipush 64, 2) := by decide +kernel
theorem dX8_begin_15 : decode cX8_begin 15 = .ok (.if_icmp .ge 28, 3) := by decide +kernel
theorem dX8_begin_18 : decode cX8_begin 18 = .ok (.aload_n 0, 1) := by decide +kernel
theorem dX8_begin_19 : decode cX8_begin 19 = .ok (.getfield 61, 3) := by decide +kernel
theorem dX8_begin_22 : decode cX8_begin 22 = .ok (.iload_n 1, 1) := by decide +kernel
theorem dX8_begin_23 : decode cX8_begin 23 = .ok (.aload_n 0, 1) := by decide +kernel
theorem dX8_begin_24 : decode cX8_begin 24 = .ok (.getfield 28, 3) := by decide +kernel
theorem dX8_begin_27 : decode cX8_begin 27 = .ok (.iload_n 1, 1) := by decide +kernel
theorem dX8_begin_28 : decode cX8_begin 28 = .ok (.iaload, 1) := by decide +kernel
theorem dX8_begin_29 : decode cX8_begin 29 = .ok (.iastore, 1) := by decide +kernel
theorem dX8_begin_30 : decode cX8_begin 30 = .ok (.aload_n 0, 1) := by decide +kernel
theorem dX8_begin_31 : decode cX8_begin 31 = .ok (.getfield 67, 3) := by decide +kernel
theorem dX8_begin_34 : decode cX8_begin 34 = .ok (.iload_n 1, 1) := by decide +kernel
theorem dX8_begin_35 : decode cX8_begin 35 = .ok (.iconst 0, 1) := by decide +kernel
theorem dX8_begin_36 : decode cX8_begin 36 = .ok (.iastore, 1) := by decide +kernel
theorem dX8_begin_37 : decode cX8_begin 37 = .ok (.iinc 1 1, 3) := by decide +kernel
theorem dX8_begin_40 : decode cX8_begin 40 = .ok (.goto (-28), 3) := by decide +kernel
theorem dX8_begin_43 : decode cX8_begin 43 = .ok (.iconst 0, 1) := by decide +kernel
theorem dX8_begin_44 : decode cX8_begin 44 = .ok (.istore_n 1, 1) := by decide +kernel
theorem dX8_begin_45 : decode cX8_begin 45 = .ok (.iload_n 1, 1) := by decide +kernel
theorem dX8_begin_46 : decode cX8_begin 46 = .ok (.bipush 32, 2) := by decide +kernel
theorem dX8_begin_48 : decode cX8_begin 48 = .ok (.if_icmp .ge 16, 3) := by decide +kernel
theorem dX8_begin_51 : decode cX8_begin 51 = .ok (.aload_n 0, 1) := by decide +kernel
theorem dX8_begin_52 : decode cX8_begin 52 = .ok (.getfield 64, 3) := by decide +kernel
theorem dX8_begin_55 : decode cX8_begin 55 = .ok (.iload_n 1, 1) := by decide +kernel
theorem dX8_begin_56 : decode cX8_begin 56 = .ok (.iconst 0, 1) := by decide +kernel
theorem dX8_begin_57 : decode cX8_begin 57 = .ok (.iastore, 1) := by decide +kernel
theorem dX8_begin_58 : decode cX8_begin 58 = .ok (.iinc 1 1, 3) := by decide +kernel
theorem dX8_begin_61 : decode cX8_begin 61 = .ok (.goto (-16), 3) := by decide +kernel
theorem dX8_begin_64 : decode cX8_begin 64 = .ok (.iconst 0, 1) := by decide +kernel
theorem dX8_begin_65 : decode cX8_begin 65 = .ok (.istore_n 1, 1) := by decide +kernel
theorem dX8_begin_66 : decode cX8_begin 66 = .ok (.iload_n 1, 1) := by decide +kernel
theorem dX8_begin_67 : decode cX8_begin 67 = .ok (.bipush 24, 2) := by decide +kernel
theorem dX8_begin_69 : decode cX8_begin 69 = .ok (.if_icmp .ge 16, 3) := by decide +kernel
theorem dX8_begin_72 : decode cX8_begin 72 = .ok (.aload_n 0, 1) := by decide +kernel
theorem dX8_begin_73 : decode cX8_begin 73 = .ok (.getfield 70, 3) := by decide +kernel
theorem dX8_begin_76 : decode cX8_begin 76 = .ok (.iload_n 1, 1) := by decide +kernel
theorem dX8_begin_77 : decode cX8_begin 77 = .ok (.iconst 0, 1) := by decide +kernel
theorem dX8_begin_78 : decode cX8_begin 78 = .ok (.iastore, 1) := by decide +kernel
theorem dX8_begin_79 : decode cX8_begin 79 = .ok (.iinc 1 1, 3) := by decide +kernel
theorem dX8_begin_82 : decode cX8_begin 82 = .ok (.goto (-16), 3) := by decide +kernel
theorem dX8_begin_85 : decode cX8_begin 85 = .ok (.return_, 1) := by decide +kernel
theorem dX8_say_0 : decode cX8_say 0 = .ok (.aload_n 0, 1) := by decide +kernel
theorem dX8_say_1 : decode cX8_say 1 = .ok (.getfield 175, 3) := by decide +kernel
theorem dX8_say_4 : decode cX8_say 4 = .ok (.bipush 50, 2) := by decide +kernel
theorem dX8_say_6 : decode cX8_say 6 = .ok (.if_icmp .ge 13, 3) := by decide +kernel
theorem dX8_say_9 : decode cX8_say 9 = .ok (.aload_n 0, 1) := by decide +kernel
theorem dX8_say_10 : decode cX8_say 10 = .ok (.getfield 58, 3) := by decide +kernel
theorem dX8_say_13 : decode cX8_say 13 = .ok (.aload_n 0, 1) := by decide +kernel
theorem dX8_say_14 : decode cX8_say 14 = .ok (.getfield 175, 3) := by decide +kernel
theorem dX8_say_17 : decode cX8_say 17 = .ok (.iload_n 1, 1) := by decide +kernel
theorem dX8_say_18 : decode cX8_say 18 = .ok (.iastore, 1) := by decide +kernel
theorem dX8_say_19 : decode cX8_say 19 = .ok (.aload_n 0, 1) := by decide +kernel
theorem dX8_say_20 : decode cX8_say 20 = .ok (.dup, 1) := by decide +kernel
theorem dX8_say_21 : decode cX8_say 21 = .ok (.getfield 175, 3) := by decide +kernel
theorem dX8_say_24 : decode cX8_say 24 = .ok (.iconst 1, 1) := by decide +kernel
theorem dX8_say_25 : decode cX8_say 25 = .ok (.iadd, 1) := by decide +kernel
theorem dX8_say_26 : decode cX8_say 26 = .ok (.putfield 175, 3) := by decide +kernel
theorem dX8_say_29 : decode cX8_say 29 = .ok (.return_, 1) := by decide +kernel
theorem dX8_reckoned_0 : decode cX8_reckoned 0 = .ok (.iload_n 0, 1) := by decide +kernel
theorem dX8_reckoned_1 : decode cX8_reckoned 1 = .ok (.iconst 2, 1) := by decide +kernel
theorem dX8_reckoned_2 : decode cX8_reckoned 2 = .ok (.if_icmp .ne 9, 3) := by decide +kernel
theorem dX8_reckoned_5 : decode cX8_reckoned 5 = .ok (.iload_n 1, 1) := by decide +kernel
theorem dX8_reckoned_6 : decode cX8_reckoned 6 = .ok (.iload_n 2, 1) := by decide +kernel
theorem dX8_reckoned_7 : decode cX8_reckoned 7 = .ok (.iadd, 1) := by decide +kernel
theorem dX8_reckoned_8 : decode cX8_reckoned 8 = .ok (.goto 17, 3) := by decide +kernel
theorem dX8_reckoned_11 : decode cX8_reckoned 11 = .ok (.iload_n 0, 1) := by decide +kernel
theorem dX8_reckoned_12 : decode cX8_reckoned 12 = .ok (.iconst 3, 1) := by decide +kernel
theorem dX8_reckoned_13 : decode cX8_reckoned 13 = .ok (.if_icmp .ne 9, 3) := by decide +kernel
theorem dX8_reckoned_16 : decode cX8_reckoned 16 = .ok (.iload_n 1, 1) := by decide +kernel
theorem dX8_reckoned_17 : decode cX8_reckoned 17 = .ok (.iload_n 2, 1) := by decide +kernel
theorem dX8_reckoned_18 : decode cX8_reckoned 18 = .ok (.isub, 1) := by decide +kernel
theorem dX8_reckoned_19 : decode cX8_reckoned 19 = .ok (.goto 6, 3) := by decide +kernel
theorem dX8_reckoned_22 : decode cX8_reckoned 22 = .ok (.iload_n 1, 1) := by decide +kernel
theorem dX8_reckoned_23 : decode cX8_reckoned 23 = .ok (.iload_n 2, 1) := by decide +kernel
theorem dX8_reckoned_24 : decode cX8_reckoned 24 = .ok (.imul, 1) := by decide +kernel
theorem dX8_reckoned_25 : decode cX8_reckoned 25 = .ok (.ireturn, 1) := by decide +kernel
theorem dX8_doStep_0 : decode cX8_doStep 0 = .ok (.aload_n 0, 1) := by decide +kernel
theorem dX8_doStep_1 : decode cX8_doStep 1 = .ok (.getfield 16, 3) := by decide +kernel
theorem dX8_doStep_4 : decode cX8_doStep 4 = .ok (.iload_n 1, 1) := by decide +kernel
theorem dX8_doStep_5 : decode cX8_doStep 5 = .ok (.iaload, 1) := by decide +kernel
theorem dX8_doStep_6 : decode cX8_doStep 6 = .ok (.istore_n 2, 1) := by decide +kernel
theorem dX8_doStep_7 : decode cX8_doStep 7 = .ok (.aload_n 0, 1) := by decide +kernel
theorem dX8_doStep_8 : decode cX8_doStep 8 = .ok (.getfield 19, 3) := by decide +kernel
theorem dX8_doStep_11 : decode cX8_doStep 11 = .ok (.iload_n 1, 1) := by decide +kernel
theorem dX8_doStep_12 : decode cX8_doStep 12 = .ok (.iaload, 1) := by decide +kernel
theorem dX8_doStep_13 : decode cX8_doStep 13 = .ok (.istore_n 3, 1) := by decide +kernel
theorem dX8_doStep_14 : decode cX8_doStep 14 = .ok (.aload_n 0, 1) := by decide +kernel
theorem dX8_doStep_15 : decode cX8_doStep 15 = .ok (.getfield 22, 3) := by decide +kernel
theorem dX8_doStep_18 : decode cX8_doStep 18 = .ok (.iload_n 1, 1) := by decide +kernel
theorem dX8_doStep_19 : decode cX8_doStep 19 = .ok (.iaload, 1) := by decide +kernel
theorem dX8_doStep_20 : decode cX8_doStep 20 = .ok (.istore 4, 2) := by decide +kernel
theorem dX8_doStep_22 : decode cX8_doStep 22 = .ok (.aload_n 0, 1) := by decide +kernel
theorem dX8_doStep_23 : decode cX8_doStep 23 = .ok (.getfield 13, 3) := by decide +kernel
theorem dX8_doStep_26 : decode cX8_doStep 26 = .ok (.iload_n 1, 1) := by decide +kernel
theorem dX8_doStep_27 : decode cX8_doStep 27 = .ok (.iaload, 1) := by decide +kernel
theorem dX8_doStep_28 : decode cX8_doStep 28 = .ok (.tableswitch 203 0 9 #[56, 66, 81, 81, 81, 112, 138, 164, 188, 190], 56) := by decide +kernel
theorem dX8_doStep_84 : decode cX8_doStep 84 = .ok (.aload_n 0, 1) := by decide +kernel
theorem dX8_doStep_85 : decode cX8_doStep 85 = .ok (.getfield 70, 3) := by decide +kernel
theorem dX8_doStep_88 : decode cX8_doStep 88 = .ok (.iload_n 2, 1) := by decide +kernel
theorem dX8_doStep_89 : decode cX8_doStep 89 = .ok (.iload_n 3, 1) := by decide +kernel
theorem dX8_doStep_90 : decode cX8_doStep 90 = .ok (.iastore, 1) := by decide +kernel
theorem dX8_doStep_91 : decode cX8_doStep 91 = .ok (.goto 143, 3) := by decide +kernel
theorem dX8_doStep_94 : decode cX8_doStep 94 = .ok (.aload_n 0, 1) := by decide +kernel
theorem dX8_doStep_95 : decode cX8_doStep 95 = .ok (.getfield 70, 3) := by decide +kernel
theorem dX8_doStep_98 : decode cX8_doStep 98 = .ok (.iload_n 2, 1) := by decide +kernel
theorem dX8_doStep_99 : decode cX8_doStep 99 = .ok (.aload_n 0, 1) := by decide +kernel
theorem dX8_doStep_100 : decode cX8_doStep 100 = .ok (.getfield 70, 3) := by decide +kernel
theorem dX8_doStep_103 : decode cX8_doStep 103 = .ok (.iload_n 3, 1) := by decide +kernel
theorem dX8_doStep_104 : decode cX8_doStep 104 = .ok (.iaload, 1) := by decide +kernel
theorem dX8_doStep_105 : decode cX8_doStep 105 = .ok (.iastore, 1) := by decide +kernel
theorem dX8_doStep_106 : decode cX8_doStep 106 = .ok (.goto 128, 3) := by decide +kernel
theorem dX8_doStep_109 : decode cX8_doStep 109 = .ok (.aload_n 0, 1) := by decide +kernel
theorem dX8_doStep_110 : decode cX8_doStep 110 = .ok (.getfield 70, 3) := by decide +kernel
theorem dX8_doStep_113 : decode cX8_doStep 113 = .ok (.iload_n 2, 1) := by decide +kernel
theorem dX8_doStep_114 : decode cX8_doStep 114 = .ok (.aload_n 0, 1) := by decide +kernel
theorem dX8_doStep_115 : decode cX8_doStep 115 = .ok (.getfield 13, 3) := by decide +kernel
theorem dX8_doStep_118 : decode cX8_doStep 118 = .ok (.iload_n 1, 1) := by decide +kernel
theorem dX8_doStep_119 : decode cX8_doStep 119 = .ok (.iaload, 1) := by decide +kernel
theorem dX8_doStep_120 : decode cX8_doStep 120 = .ok (.aload_n 0, 1) := by decide +kernel
theorem dX8_doStep_121 : decode cX8_doStep 121 = .ok (.getfield 70, 3) := by decide +kernel
theorem dX8_doStep_124 : decode cX8_doStep 124 = .ok (.iload_n 3, 1) := by decide +kernel
theorem dX8_doStep_125 : decode cX8_doStep 125 = .ok (.iaload, 1) := by decide +kernel
theorem dX8_doStep_126 : decode cX8_doStep 126 = .ok (.aload_n 0, 1) := by decide +kernel
theorem dX8_doStep_127 : decode cX8_doStep 127 = .ok (.getfield 70, 3) := by decide +kernel
theorem dX8_doStep_130 : decode cX8_doStep 130 = .ok (.iload 4, 2) := by decide +kernel
theorem dX8_doStep_132 : decode cX8_doStep 132 = .ok (.iaload, 1) := by decide +kernel
theorem dX8_doStep_133 : decode cX8_doStep 133 = .ok (.invokestatic 178, 3) := by decide +kernel
theorem dX8_doStep_136 : decode cX8_doStep 136 = .ok (.iastore, 1) := by decide +kernel
theorem dX8_doStep_137 : decode cX8_doStep 137 = .ok (.goto 97, 3) := by decide +kernel
theorem dX8_doStep_140 : decode cX8_doStep 140 = .ok (.aload_n 0, 1) := by decide +kernel
theorem dX8_doStep_141 : decode cX8_doStep 141 = .ok (.getfield 70, 3) := by decide +kernel
theorem dX8_doStep_144 : decode cX8_doStep 144 = .ok (.iload_n 2, 1) := by decide +kernel
theorem dX8_doStep_145 : decode cX8_doStep 145 = .ok (.aload_n 0, 1) := by decide +kernel
theorem dX8_doStep_146 : decode cX8_doStep 146 = .ok (.getfield 61, 3) := by decide +kernel
theorem dX8_doStep_149 : decode cX8_doStep 149 = .ok (.aload_n 0, 1) := by decide +kernel
theorem dX8_doStep_150 : decode cX8_doStep 150 = .ok (.getfield 70, 3) := by decide +kernel
theorem dX8_doStep_153 : decode cX8_doStep 153 = .ok (.iload_n 3, 1) := by decide +kernel
theorem dX8_doStep_154 : decode cX8_doStep 154 = .ok (.iaload, 1) := by decide +kernel
theorem dX8_doStep_155 : decode cX8_doStep 155 = .ok (.iload 4, 2) := by decide +kernel
theorem dX8_doStep_157 : decode cX8_doStep 157 = .ok (.iadd, 1) := by decide +kernel
theorem dX8_doStep_158 : decode cX8_doStep 158 = .ok (.bipush 63, 2) := by decide +kernel
theorem dX8_doStep_160 : decode cX8_doStep 160 = .ok (.iand, 1) := by decide +kernel
theorem dX8_doStep_161 : decode cX8_doStep 161 = .ok (.iaload, 1) := by decide +kernel
theorem dX8_doStep_162 : decode cX8_doStep 162 = .ok (.iastore, 1) := by decide +kernel
theorem dX8_doStep_163 : decode cX8_doStep 163 = .ok (.goto 71, 3) := by decide +kernel
theorem dX8_doStep_166 : decode cX8_doStep 166 = .ok (.aload_n 0, 1) := by decide +kernel
theorem dX8_doStep_167 : decode cX8_doStep 167 = .ok (.getfield 61, 3) := by decide +kernel
theorem dX8_doStep_170 : decode cX8_doStep 170 = .ok (.aload_n 0, 1) := by decide +kernel
theorem dX8_doStep_171 : decode cX8_doStep 171 = .ok (.getfield 70, 3) := by decide +kernel
theorem dX8_doStep_174 : decode cX8_doStep 174 = .ok (.iload_n 3, 1) := by decide +kernel
theorem dX8_doStep_175 : decode cX8_doStep 175 = .ok (.iaload, 1) := by decide +kernel
theorem dX8_doStep_176 : decode cX8_doStep 176 = .ok (.iload 4, 2) := by decide +kernel
theorem dX8_doStep_178 : decode cX8_doStep 178 = .ok (.iadd, 1) := by decide +kernel
theorem dX8_doStep_179 : decode cX8_doStep 179 = .ok (.bipush 63, 2) := by decide +kernel
theorem dX8_doStep_181 : decode cX8_doStep 181 = .ok (.iand, 1) := by decide +kernel
theorem dX8_doStep_182 : decode cX8_doStep 182 = .ok (.aload_n 0, 1) := by decide +kernel
theorem dX8_doStep_183 : decode cX8_doStep 183 = .ok (.getfield 70, 3) := by decide +kernel
theorem dX8_doStep_186 : decode cX8_doStep 186 = .ok (.iload_n 2, 1) := by decide +kernel
theorem dX8_doStep_187 : decode cX8_doStep 187 = .ok (.iaload, 1) := by decide +kernel
theorem dX8_doStep_188 : decode cX8_doStep 188 = .ok (.iastore, 1) := by decide +kernel
theorem dX8_doStep_189 : decode cX8_doStep 189 = .ok (.goto 45, 3) := by decide +kernel
theorem dX8_doStep_192 : decode cX8_doStep 192 = .ok (.aload_n 0, 1) := by decide +kernel
theorem dX8_doStep_193 : decode cX8_doStep 193 = .ok (.getfield 70, 3) := by decide +kernel
theorem dX8_doStep_196 : decode cX8_doStep 196 = .ok (.iload_n 2, 1) := by decide +kernel
theorem dX8_doStep_197 : decode cX8_doStep 197 = .ok (.iaload, 1) := by decide +kernel
theorem dX8_doStep_198 : decode cX8_doStep 198 = .ok (.aload_n 0, 1) := by decide +kernel
theorem dX8_doStep_199 : decode cX8_doStep 199 = .ok (.getfield 70, 3) := by decide +kernel
theorem dX8_doStep_202 : decode cX8_doStep 202 = .ok (.iload_n 3, 1) := by decide +kernel
theorem dX8_doStep_203 : decode cX8_doStep 203 = .ok (.iaload, 1) := by decide +kernel
theorem dX8_doStep_204 : decode cX8_doStep 204 = .ok (.if_icmp .ge 8, 3) := by decide +kernel
theorem dX8_doStep_207 : decode cX8_doStep 207 = .ok (.iload 4, 2) := by decide +kernel
theorem dX8_doStep_209 : decode cX8_doStep 209 = .ok (.goto 6, 3) := by decide +kernel
theorem dX8_doStep_212 : decode cX8_doStep 212 = .ok (.iload_n 1, 1) := by decide +kernel
theorem dX8_doStep_213 : decode cX8_doStep 213 = .ok (.iconst 1, 1) := by decide +kernel
theorem dX8_doStep_214 : decode cX8_doStep 214 = .ok (.iadd, 1) := by decide +kernel
theorem dX8_doStep_215 : decode cX8_doStep 215 = .ok (.ireturn, 1) := by decide +kernel
theorem dX8_doStep_216 : decode cX8_doStep 216 = .ok (.iload_n 2, 1) := by decide +kernel
theorem dX8_doStep_217 : decode cX8_doStep 217 = .ok (.ireturn, 1) := by decide +kernel
theorem dX8_doStep_218 : decode cX8_doStep 218 = .ok (.aload_n 0, 1) := by decide +kernel
theorem dX8_doStep_219 : decode cX8_doStep 219 = .ok (.aload_n 0, 1) := by decide +kernel
theorem dX8_doStep_220 : decode cX8_doStep 220 = .ok (.getfield 70, 3) := by decide +kernel
theorem dX8_doStep_223 : decode cX8_doStep 223 = .ok (.iload_n 2, 1) := by decide +kernel
theorem dX8_doStep_224 : decode cX8_doStep 224 = .ok (.iaload, 1) := by decide +kernel
theorem dX8_doStep_225 : decode cX8_doStep 225 = .ok (.invokevirtual 182, 3) := by decide +kernel
theorem dX8_doStep_228 : decode cX8_doStep 228 = .ok (.goto 6, 3) := by decide +kernel
theorem dX8_doStep_231 : decode cX8_doStep 231 = .ok (.bipush 60, 2) := by decide +kernel
theorem dX8_doStep_233 : decode cX8_doStep 233 = .ok (.ireturn, 1) := by decide +kernel
theorem dX8_doStep_234 : decode cX8_doStep 234 = .ok (.iload_n 1, 1) := by decide +kernel
theorem dX8_doStep_235 : decode cX8_doStep 235 = .ok (.iconst 1, 1) := by decide +kernel
theorem dX8_doStep_236 : decode cX8_doStep 236 = .ok (.iadd, 1) := by decide +kernel
theorem dX8_doStep_237 : decode cX8_doStep 237 = .ok (.ireturn, 1) := by decide +kernel
theorem dX8_doItem_0 : decode cX8_doItem 0 = .ok (.iload_n 1, 1) := by decide +kernel
theorem dX8_doItem_1 : decode cX8_doItem 1 = .ok (.iconst 4, 1) := by decide +kernel
theorem dX8_doItem_2 : decode cX8_doItem 2 = .ok (.iload_n 2, 1) := by decide +kernel
theorem dX8_doItem_3 : decode cX8_doItem 3 = .ok (.imul, 1) := by decide +kernel
theorem dX8_doItem_4 : decode cX8_doItem 4 = .ok (.iadd, 1) := by decide +kernel
theorem dX8_doItem_5 : decode cX8_doItem 5 = .ok (.istore_n 3, 1) := by decide +kernel
theorem dX8_doItem_6 : decode cX8_doItem 6 = .ok (.aload_n 0, 1) := by decide +kernel
theorem dX8_doItem_7 : decode cX8_doItem 7 = .ok (.getfield 49, 3) := by decide +kernel
theorem dX8_doItem_10 : decode cX8_doItem 10 = .ok (.iload_n 3, 1) := by decide +kernel
theorem dX8_doItem_11 : decode cX8_doItem 11 = .ok (.iconst 1, 1) := by decide +kernel
theorem dX8_doItem_12 : decode cX8_doItem 12 = .ok (.iadd, 1) := by decide +kernel
theorem dX8_doItem_13 : decode cX8_doItem 13 = .ok (.iaload, 1) := by decide +kernel
theorem dX8_doItem_14 : decode cX8_doItem 14 = .ok (.istore 4, 2) := by decide +kernel
theorem dX8_doItem_16 : decode cX8_doItem 16 = .ok (.aload_n 0, 1) := by decide +kernel
theorem dX8_doItem_17 : decode cX8_doItem 17 = .ok (.getfield 49, 3) := by decide +kernel
theorem dX8_doItem_20 : decode cX8_doItem 20 = .ok (.iload_n 3, 1) := by decide +kernel
theorem dX8_doItem_21 : decode cX8_doItem 21 = .ok (.iconst 2, 1) := by decide +kernel
theorem dX8_doItem_22 : decode cX8_doItem 22 = .ok (.iadd, 1) := by decide +kernel
theorem dX8_doItem_23 : decode cX8_doItem 23 = .ok (.iaload, 1) := by decide +kernel
theorem dX8_doItem_24 : decode cX8_doItem 24 = .ok (.istore 5, 2) := by decide +kernel
theorem dX8_doItem_26 : decode cX8_doItem 26 = .ok (.aload_n 0, 1) := by decide +kernel
theorem dX8_doItem_27 : decode cX8_doItem 27 = .ok (.getfield 49, 3) := by decide +kernel
theorem dX8_doItem_30 : decode cX8_doItem 30 = .ok (.iload_n 3, 1) := by decide +kernel
theorem dX8_doItem_31 : decode cX8_doItem 31 = .ok (.iconst 3, 1) := by decide +kernel
theorem dX8_doItem_32 : decode cX8_doItem 32 = .ok (.iadd, 1) := by decide +kernel
theorem dX8_doItem_33 : decode cX8_doItem 33 = .ok (.iaload, 1) := by decide +kernel
theorem dX8_doItem_34 : decode cX8_doItem 34 = .ok (.istore 6, 2) := by decide +kernel
theorem dX8_doItem_36 : decode cX8_doItem 36 = .ok (.aload_n 0, 1) := by decide +kernel
theorem dX8_doItem_37 : decode cX8_doItem 37 = .ok (.getfield 49, 3) := by decide +kernel
theorem dX8_doItem_40 : decode cX8_doItem 40 = .ok (.iload_n 3, 1) := by decide +kernel
theorem dX8_doItem_41 : decode cX8_doItem 41 = .ok (.iaload, 1) := by decide +kernel
theorem dX8_doItem_42 : decode cX8_doItem 42 = .ok (.tableswitch 279 0 12 #[66, 78, 95, 95, 95, 128, 156, 184, 210, 213, 279, 227, 253], 66) := by decide +kernel
theorem dX8_doItem_108 : decode cX8_doItem 108 = .ok (.aload_n 0, 1) := by decide +kernel
theorem dX8_doItem_109 : decode cX8_doItem 109 = .ok (.getfield 64, 3) := by decide +kernel
theorem dX8_doItem_112 : decode cX8_doItem 112 = .ok (.iload 4, 2) := by decide +kernel
theorem dX8_doItem_114 : decode cX8_doItem 114 = .ok (.iload 5, 2) := by decide +kernel
theorem dX8_doItem_116 : decode cX8_doItem 116 = .ok (.iastore, 1) := by decide +kernel
theorem dX8_doItem_117 : decode cX8_doItem 117 = .ok (.goto 208, 3) := by decide +kernel
theorem dX8_doItem_120 : decode cX8_doItem 120 = .ok (.aload_n 0, 1) := by decide +kernel
theorem dX8_doItem_121 : decode cX8_doItem 121 = .ok (.getfield 64, 3) := by decide +kernel
theorem dX8_doItem_124 : decode cX8_doItem 124 = .ok (.iload 4, 2) := by decide +kernel
theorem dX8_doItem_126 : decode cX8_doItem 126 = .ok (.aload_n 0, 1) := by decide +kernel
theorem dX8_doItem_127 : decode cX8_doItem 127 = .ok (.getfield 64, 3) := by decide +kernel
theorem dX8_doItem_130 : decode cX8_doItem 130 = .ok (.iload 5, 2) := by decide +kernel
theorem dX8_doItem_132 : decode cX8_doItem 132 = .ok (.iaload, 1) := by decide +kernel
theorem dX8_doItem_133 : decode cX8_doItem 133 = .ok (.iastore, 1) := by decide +kernel
theorem dX8_doItem_134 : decode cX8_doItem 134 = .ok (.goto 191, 3) := by decide +kernel
theorem dX8_doItem_137 : decode cX8_doItem 137 = .ok (.aload_n 0, 1) := by decide +kernel
theorem dX8_doItem_138 : decode cX8_doItem 138 = .ok (.getfield 64, 3) := by decide +kernel
theorem dX8_doItem_141 : decode cX8_doItem 141 = .ok (.iload 4, 2) := by decide +kernel
theorem dX8_doItem_143 : decode cX8_doItem 143 = .ok (.aload_n 0, 1) := by decide +kernel
theorem dX8_doItem_144 : decode cX8_doItem 144 = .ok (.getfield 49, 3) := by decide +kernel
theorem dX8_doItem_147 : decode cX8_doItem 147 = .ok (.iload_n 3, 1) := by decide +kernel
theorem dX8_doItem_148 : decode cX8_doItem 148 = .ok (.iaload, 1) := by decide +kernel
theorem dX8_doItem_149 : decode cX8_doItem 149 = .ok (.aload_n 0, 1) := by decide +kernel
theorem dX8_doItem_150 : decode cX8_doItem 150 = .ok (.getfield 64, 3) := by decide +kernel
theorem dX8_doItem_153 : decode cX8_doItem 153 = .ok (.iload 5, 2) := by decide +kernel
theorem dX8_doItem_155 : decode cX8_doItem 155 = .ok (.iaload, 1) := by decide +kernel
theorem dX8_doItem_156 : decode cX8_doItem 156 = .ok (.aload_n 0, 1) := by decide +kernel
theorem dX8_doItem_157 : decode cX8_doItem 157 = .ok (.getfield 64, 3) := by decide +kernel
theorem dX8_doItem_160 : decode cX8_doItem 160 = .ok (.iload 6, 2) := by decide +kernel
theorem dX8_doItem_162 : decode cX8_doItem 162 = .ok (.iaload, 1) := by decide +kernel
theorem dX8_doItem_163 : decode cX8_doItem 163 = .ok (.invokestatic 178, 3) := by decide +kernel
theorem dX8_doItem_166 : decode cX8_doItem 166 = .ok (.iastore, 1) := by decide +kernel
theorem dX8_doItem_167 : decode cX8_doItem 167 = .ok (.goto 158, 3) := by decide +kernel
theorem dX8_doItem_170 : decode cX8_doItem 170 = .ok (.aload_n 0, 1) := by decide +kernel
theorem dX8_doItem_171 : decode cX8_doItem 171 = .ok (.getfield 64, 3) := by decide +kernel
theorem dX8_doItem_174 : decode cX8_doItem 174 = .ok (.iload 4, 2) := by decide +kernel
theorem dX8_doItem_176 : decode cX8_doItem 176 = .ok (.aload_n 0, 1) := by decide +kernel
theorem dX8_doItem_177 : decode cX8_doItem 177 = .ok (.getfield 61, 3) := by decide +kernel
theorem dX8_doItem_180 : decode cX8_doItem 180 = .ok (.aload_n 0, 1) := by decide +kernel
theorem dX8_doItem_181 : decode cX8_doItem 181 = .ok (.getfield 64, 3) := by decide +kernel
theorem dX8_doItem_184 : decode cX8_doItem 184 = .ok (.iload 5, 2) := by decide +kernel
theorem dX8_doItem_186 : decode cX8_doItem 186 = .ok (.iaload, 1) := by decide +kernel
theorem dX8_doItem_187 : decode cX8_doItem 187 = .ok (.iload 6, 2) := by decide +kernel
theorem dX8_doItem_189 : decode cX8_doItem 189 = .ok (.iadd, 1) := by decide +kernel
theorem dX8_doItem_190 : decode cX8_doItem 190 = .ok (.bipush 63, 2) := by decide +kernel
theorem dX8_doItem_192 : decode cX8_doItem 192 = .ok (.iand, 1) := by decide +kernel
theorem dX8_doItem_193 : decode cX8_doItem 193 = .ok (.iaload, 1) := by decide +kernel
theorem dX8_doItem_194 : decode cX8_doItem 194 = .ok (.iastore, 1) := by decide +kernel
theorem dX8_doItem_195 : decode cX8_doItem 195 = .ok (.goto 130, 3) := by decide +kernel
theorem dX8_doItem_198 : decode cX8_doItem 198 = .ok (.aload_n 0, 1) := by decide +kernel
theorem dX8_doItem_199 : decode cX8_doItem 199 = .ok (.getfield 61, 3) := by decide +kernel
theorem dX8_doItem_202 : decode cX8_doItem 202 = .ok (.aload_n 0, 1) := by decide +kernel
theorem dX8_doItem_203 : decode cX8_doItem 203 = .ok (.getfield 64, 3) := by decide +kernel
theorem dX8_doItem_206 : decode cX8_doItem 206 = .ok (.iload 5, 2) := by decide +kernel
theorem dX8_doItem_208 : decode cX8_doItem 208 = .ok (.iaload, 1) := by decide +kernel
theorem dX8_doItem_209 : decode cX8_doItem 209 = .ok (.iload 6, 2) := by decide +kernel
theorem dX8_doItem_211 : decode cX8_doItem 211 = .ok (.iadd, 1) := by decide +kernel
theorem dX8_doItem_212 : decode cX8_doItem 212 = .ok (.bipush 63, 2) := by decide +kernel
theorem dX8_doItem_214 : decode cX8_doItem 214 = .ok (.iand, 1) := by decide +kernel
theorem dX8_doItem_215 : decode cX8_doItem 215 = .ok (.aload_n 0, 1) := by decide +kernel
theorem dX8_doItem_216 : decode cX8_doItem 216 = .ok (.getfield 64, 3) := by decide +kernel
theorem dX8_doItem_219 : decode cX8_doItem 219 = .ok (.iload 4, 2) := by decide +kernel
theorem dX8_doItem_221 : decode cX8_doItem 221 = .ok (.iaload, 1) := by decide +kernel
theorem dX8_doItem_222 : decode cX8_doItem 222 = .ok (.iastore, 1) := by decide +kernel
theorem dX8_doItem_223 : decode cX8_doItem 223 = .ok (.goto 102, 3) := by decide +kernel
theorem dX8_doItem_226 : decode cX8_doItem 226 = .ok (.aload_n 0, 1) := by decide +kernel
theorem dX8_doItem_227 : decode cX8_doItem 227 = .ok (.getfield 64, 3) := by decide +kernel
theorem dX8_doItem_230 : decode cX8_doItem 230 = .ok (.iload 4, 2) := by decide +kernel
theorem dX8_doItem_232 : decode cX8_doItem 232 = .ok (.iaload, 1) := by decide +kernel
theorem dX8_doItem_233 : decode cX8_doItem 233 = .ok (.aload_n 0, 1) := by decide +kernel
theorem dX8_doItem_234 : decode cX8_doItem 234 = .ok (.getfield 64, 3) := by decide +kernel
theorem dX8_doItem_237 : decode cX8_doItem 237 = .ok (.iload 5, 2) := by decide +kernel
theorem dX8_doItem_239 : decode cX8_doItem 239 = .ok (.iaload, 1) := by decide +kernel
theorem dX8_doItem_240 : decode cX8_doItem 240 = .ok (.if_icmp .ge 8, 3) := by decide +kernel
theorem dX8_doItem_243 : decode cX8_doItem 243 = .ok (.iload 6, 2) := by decide +kernel
theorem dX8_doItem_245 : decode cX8_doItem 245 = .ok (.goto 6, 3) := by decide +kernel
theorem dX8_doItem_248 : decode cX8_doItem 248 = .ok (.iload_n 2, 1) := by decide +kernel
theorem dX8_doItem_249 : decode cX8_doItem 249 = .ok (.iconst 1, 1) := by decide +kernel
theorem dX8_doItem_250 : decode cX8_doItem 250 = .ok (.iadd, 1) := by decide +kernel
theorem dX8_doItem_251 : decode cX8_doItem 251 = .ok (.ireturn, 1) := by decide +kernel
theorem dX8_doItem_252 : decode cX8_doItem 252 = .ok (.iload 4, 2) := by decide +kernel
theorem dX8_doItem_254 : decode cX8_doItem 254 = .ok (.ireturn, 1) := by decide +kernel
theorem dX8_doItem_255 : decode cX8_doItem 255 = .ok (.aload_n 0, 1) := by decide +kernel
theorem dX8_doItem_256 : decode cX8_doItem 256 = .ok (.aload_n 0, 1) := by decide +kernel
theorem dX8_doItem_257 : decode cX8_doItem 257 = .ok (.getfield 64, 3) := by decide +kernel
theorem dX8_doItem_260 : decode cX8_doItem 260 = .ok (.iload 4, 2) := by decide +kernel
theorem dX8_doItem_262 : decode cX8_doItem 262 = .ok (.iaload, 1) := by decide +kernel
theorem dX8_doItem_263 : decode cX8_doItem 263 = .ok (.invokevirtual 182, 3) := by decide +kernel
theorem dX8_doItem_266 : decode cX8_doItem 266 = .ok (.goto 59, 3) := by decide +kernel
theorem dX8_doItem_269 : decode cX8_doItem 269 = .ok (.aload_n 0, 1) := by decide +kernel
theorem dX8_doItem_270 : decode cX8_doItem 270 = .ok (.getfield 64, 3) := by decide +kernel
theorem dX8_doItem_273 : decode cX8_doItem 273 = .ok (.iload 4, 2) := by decide +kernel
theorem dX8_doItem_275 : decode cX8_doItem 275 = .ok (.aload_n 0, 1) := by decide +kernel
theorem dX8_doItem_276 : decode cX8_doItem 276 = .ok (.getfield 67, 3) := by decide +kernel
theorem dX8_doItem_279 : decode cX8_doItem 279 = .ok (.bipush 32, 2) := by decide +kernel
theorem dX8_doItem_281 : decode cX8_doItem 281 = .ok (.iload 4, 2) := by decide +kernel
theorem dX8_doItem_283 : decode cX8_doItem 283 = .ok (.bipush 16, 2) := by decide +kernel
theorem dX8_doItem_285 : decode cX8_doItem 285 = .ok (.idiv, 1) := by decide +kernel
theorem dX8_doItem_286 : decode cX8_doItem 286 = .ok (.imul, 1) := by decide +kernel
theorem dX8_doItem_287 : decode cX8_doItem 287 = .ok (.iload 5, 2) := by decide +kernel
theorem dX8_doItem_289 : decode cX8_doItem 289 = .ok (.iadd, 1) := by decide +kernel
theorem dX8_doItem_290 : decode cX8_doItem 290 = .ok (.iaload, 1) := by decide +kernel
theorem dX8_doItem_291 : decode cX8_doItem 291 = .ok (.iastore, 1) := by decide +kernel
theorem dX8_doItem_292 : decode cX8_doItem 292 = .ok (.goto 33, 3) := by decide +kernel
theorem dX8_doItem_295 : decode cX8_doItem 295 = .ok (.aload_n 0, 1) := by decide +kernel
theorem dX8_doItem_296 : decode cX8_doItem 296 = .ok (.getfield 67, 3) := by decide +kernel
theorem dX8_doItem_299 : decode cX8_doItem 299 = .ok (.bipush 32, 2) := by decide +kernel
theorem dX8_doItem_301 : decode cX8_doItem 301 = .ok (.iload 4, 2) := by decide +kernel
theorem dX8_doItem_303 : decode cX8_doItem 303 = .ok (.bipush 16, 2) := by decide +kernel
theorem dX8_doItem_305 : decode cX8_doItem 305 = .ok (.idiv, 1) := by decide +kernel
theorem dX8_doItem_306 : decode cX8_doItem 306 = .ok (.imul, 1) := by decide +kernel
theorem dX8_doItem_307 : decode cX8_doItem 307 = .ok (.iload 5, 2) := by decide +kernel
theorem dX8_doItem_309 : decode cX8_doItem 309 = .ok (.iadd, 1) := by decide +kernel
theorem dX8_doItem_310 : decode cX8_doItem 310 = .ok (.aload_n 0, 1) := by decide +kernel
theorem dX8_doItem_311 : decode cX8_doItem 311 = .ok (.getfield 64, 3) := by decide +kernel
theorem dX8_doItem_314 : decode cX8_doItem 314 = .ok (.iload 4, 2) := by decide +kernel
theorem dX8_doItem_316 : decode cX8_doItem 316 = .ok (.iaload, 1) := by decide +kernel
theorem dX8_doItem_317 : decode cX8_doItem 317 = .ok (.iastore, 1) := by decide +kernel
theorem dX8_doItem_318 : decode cX8_doItem 318 = .ok (.goto 7, 3) := by decide +kernel
theorem dX8_doItem_321 : decode cX8_doItem 321 = .ok (.sipush 400, 3) := by decide +kernel
theorem dX8_doItem_324 : decode cX8_doItem 324 = .ok (.ireturn, 1) := by decide +kernel
theorem dX8_doItem_325 : decode cX8_doItem 325 = .ok (.iload_n 2, 1) := by decide +kernel
theorem dX8_doItem_326 : decode cX8_doItem 326 = .ok (.iconst 1, 1) := by decide +kernel
theorem dX8_doItem_327 : decode cX8_doItem 327 = .ok (.iadd, 1) := by decide +kernel
theorem dX8_doItem_328 : decode cX8_doItem 328 = .ok (.ireturn, 1) := by decide +kernel
theorem dX8_run_0 : decode cX8_run 0 = .ok (.iload_n 1, 1) := by decide +kernel
theorem dX8_run_1 : decode cX8_run 1 = .ok (.ifCond .lt 19, 3) := by decide +kernel
theorem dX8_run_4 : decode cX8_run 4 = .ok (.iload_n 1, 1) := by decide +kernel
theorem dX8_run_5 : decode cX8_run 5 = .ok (.iconst 2, 1) := by decide +kernel
theorem dX8_run_6 : decode cX8_run 6 = .ok (.if_icmp .gt 14, 3) := by decide +kernel
theorem dX8_run_9 : decode cX8_run 9 = .ok (.iload_n 2, 1) := by decide +kernel
theorem dX8_run_10 : decode cX8_run 10 = .ok (.ifCond .lt 10, 3) := by decide +kernel
theorem dX8_run_13 : decode cX8_run 13 = .ok (.iload_n 2, 1) := by decide +kernel
theorem dX8_run_14 : decode cX8_run 14 = .ok (.sipush 2000, 3) := by decide +kernel
theorem dX8_run_17 : decode cX8_run 17 = .ok (.if_icmp .le 5, 3) := by decide +kernel
theorem dX8_run_20 : decode cX8_run 20 = .ok (.iconst (-1), 1) := by decide +kernel
theorem dX8_run_21 : decode cX8_run 21 = .ok (.ireturn, 1) := by decide +kernel
theorem dX8_run_22 : decode cX8_run 22 = .ok (.aload_n 0, 1) := by decide +kernel
theorem dX8_run_23 : decode cX8_run 23 = .ok (.invokevirtual 166, 3) := by decide +kernel
theorem dX8_run_26 : decode cX8_run 26 = .ok (.aload_n 0, 1) := by decide +kernel
theorem dX8_run_27 : decode cX8_run 27 = .ok (.invokevirtual 185, 3) := by decide +kernel
theorem dX8_run_30 : decode cX8_run 30 = .ok (.iload_n 1, 1) := by decide +kernel
theorem dX8_run_31 : decode cX8_run 31 = .ok (.ifCond .ne 10, 3) := by decide +kernel
theorem dX8_run_34 : decode cX8_run 34 = .ok (.aload_n 0, 1) := by decide +kernel
theorem dX8_run_35 : decode cX8_run 35 = .ok (.getfield 95, 3) := by decide +kernel
theorem dX8_run_38 : decode cX8_run 38 = .ok (.goto 11, 3) := by decide +kernel
theorem dX8_run_41 : decode cX8_run 41 = .ok (.aload_n 0, 1) := by decide +kernel
theorem dX8_run_42 : decode cX8_run 42 = .ok (.getfield 52, 3) := by decide +kernel
theorem dX8_run_45 : decode cX8_run 45 = .ok (.iload_n 1, 1) := by decide +kernel
theorem dX8_run_46 : decode cX8_run 46 = .ok (.iconst 1, 1) := by decide +kernel
theorem dX8_run_47 : decode cX8_run 47 = .ok (.isub, 1) := by decide +kernel
theorem dX8_run_48 : decode cX8_run 48 = .ok (.iaload, 1) := by decide +kernel
theorem dX8_run_49 : decode cX8_run 49 = .ok (.istore_n 3, 1) := by decide +kernel
theorem dX8_run_50 : decode cX8_run 50 = .ok (.iconst 0, 1) := by decide +kernel
theorem dX8_run_51 : decode cX8_run 51 = .ok (.istore 4, 2) := by decide +kernel
theorem dX8_run_53 : decode cX8_run 53 = .ok (.iload 4, 2) := by decide +kernel
theorem dX8_run_55 : decode cX8_run 55 = .ok (.iload_n 3, 1) := by decide +kernel
theorem dX8_run_56 : decode cX8_run 56 = .ok (.if_icmp .ge 52, 3) := by decide +kernel
theorem dX8_run_59 : decode cX8_run 59 = .ok (.aload_n 0, 1) := by decide +kernel
theorem dX8_run_60 : decode cX8_run 60 = .ok (.getfield 172, 3) := by decide +kernel
theorem dX8_run_63 : decode cX8_run 63 = .ok (.iload_n 2, 1) := by decide +kernel
theorem dX8_run_64 : decode cX8_run 64 = .ok (.if_icmp .ge 44, 3) := by decide +kernel
theorem dX8_run_67 : decode cX8_run 67 = .ok (.iload_n 1, 1) := by decide +kernel
theorem dX8_run_68 : decode cX8_run 68 = .ok (.ifCond .ne 12, 3) := by decide +kernel
theorem dX8_run_71 : decode cX8_run 71 = .ok (.aload_n 0, 1) := by decide +kernel
theorem dX8_run_72 : decode cX8_run 72 = .ok (.iload 4, 2) := by decide +kernel
theorem dX8_run_74 : decode cX8_run 74 = .ok (.invokevirtual 188, 3) := by decide +kernel
theorem dX8_run_77 : decode cX8_run 77 = .ok (.goto 16, 3) := by decide +kernel
theorem dX8_run_80 : decode cX8_run 80 = .ok (.aload_n 0, 1) := by decide +kernel
theorem dX8_run_81 : decode cX8_run 81 = .ok (.sipush 1600, 3) := by decide +kernel
theorem dX8_run_84 : decode cX8_run 84 = .ok (.iload_n 1, 1) := by decide +kernel
theorem dX8_run_85 : decode cX8_run 85 = .ok (.iconst 1, 1) := by decide +kernel
theorem dX8_run_86 : decode cX8_run 86 = .ok (.isub, 1) := by decide +kernel
theorem dX8_run_87 : decode cX8_run 87 = .ok (.imul, 1) := by decide +kernel
theorem dX8_run_88 : decode cX8_run 88 = .ok (.iload 4, 2) := by decide +kernel
theorem dX8_run_90 : decode cX8_run 90 = .ok (.invokevirtual 191, 3) := by decide +kernel
theorem dX8_run_93 : decode cX8_run 93 = .ok (.istore 4, 2) := by decide +kernel
theorem dX8_run_95 : decode cX8_run 95 = .ok (.aload_n 0, 1) := by decide +kernel
theorem dX8_run_96 : decode cX8_run 96 = .ok (.dup, 1) := by decide +kernel
theorem dX8_run_97 : decode cX8_run 97 = .ok (.getfield 172, 3) := by decide +kernel
theorem dX8_run_100 : decode cX8_run 100 = .ok (.iconst 1, 1) := by decide +kernel
theorem dX8_run_101 : decode cX8_run 101 = .ok (.iadd, 1) := by decide +kernel
theorem dX8_run_102 : decode cX8_run 102 = .ok (.putfield 172, 3) := by decide +kernel
theorem dX8_run_105 : decode cX8_run 105 = .ok (.goto (-52), 3) := by decide +kernel
theorem dX8_run_108 : decode cX8_run 108 = .ok (.iload 4, 2) := by decide +kernel
theorem dX8_run_110 : decode cX8_run 110 = .ok (.iload_n 3, 1) := by decide +kernel
theorem dX8_run_111 : decode cX8_run 111 = .ok (.if_icmp .ge 7, 3) := by decide +kernel
theorem dX8_run_114 : decode cX8_run 114 = .ok (.iconst 1, 1) := by decide +kernel
theorem dX8_run_115 : decode cX8_run 115 = .ok (.goto 4, 3) := by decide +kernel
theorem dX8_run_118 : decode cX8_run 118 = .ok (.iconst 0, 1) := by decide +kernel
theorem dX8_run_119 : decode cX8_run 119 = .ok (.ireturn, 1) := by decide +kernel
theorem dX8_made_0 : decode cX8_made 0 = .ok (.iload_n 1, 1) := by decide +kernel
theorem dX8_made_1 : decode cX8_made 1 = .ok (.ifCond .ne 10, 3) := by decide +kernel
theorem dX8_made_4 : decode cX8_made 4 = .ok (.aload_n 0, 1) := by decide +kernel
theorem dX8_made_5 : decode cX8_made 5 = .ok (.getfield 172, 3) := by decide +kernel
theorem dX8_made_8 : decode cX8_made 8 = .ok (.goto 16, 3) := by decide +kernel
theorem dX8_made_11 : decode cX8_made 11 = .ok (.iload_n 1, 1) := by decide +kernel
theorem dX8_made_12 : decode cX8_made 12 = .ok (.iconst 1, 1) := by decide +kernel
theorem dX8_made_13 : decode cX8_made 13 = .ok (.if_icmp .ne 10, 3) := by decide +kernel
theorem dX8_made_16 : decode cX8_made 16 = .ok (.aload_n 0, 1) := by decide +kernel
theorem dX8_made_17 : decode cX8_made 17 = .ok (.getfield 175, 3) := by decide +kernel
theorem dX8_made_20 : decode cX8_made 20 = .ok (.goto 4, 3) := by decide +kernel
theorem dX8_made_23 : decode cX8_made 23 = .ok (.iconst (-1), 1) := by decide +kernel
theorem dX8_made_24 : decode cX8_made 24 = .ok (.ireturn, 1) := by decide +kernel
theorem dX8_said_0 : decode cX8_said 0 = .ok (.iload_n 1, 1) := by decide +kernel
theorem dX8_said_1 : decode cX8_said 1 = .ok (.ifCond .lt 17, 3) := by decide +kernel
theorem dX8_said_4 : decode cX8_said 4 = .ok (.iload_n 1, 1) := by decide +kernel
theorem dX8_said_5 : decode cX8_said 5 = .ok (.aload_n 0, 1) := by decide +kernel
theorem dX8_said_6 : decode cX8_said 6 = .ok (.getfield 175, 3) := by decide +kernel
theorem dX8_said_9 : decode cX8_said 9 = .ok (.if_icmp .ge 9, 3) := by decide +kernel
theorem dX8_said_12 : decode cX8_said 12 = .ok (.iload_n 1, 1) := by decide +kernel
theorem dX8_said_13 : decode cX8_said 13 = .ok (.bipush 50, 2) := by decide +kernel
theorem dX8_said_15 : decode cX8_said 15 = .ok (.if_icmp .lt 7, 3) := by decide +kernel
theorem dX8_said_18 : decode cX8_said 18 = .ok (.iconst 0, 1) := by decide +kernel
theorem dX8_said_19 : decode cX8_said 19 = .ok (.goto 9, 3) := by decide +kernel
theorem dX8_said_22 : decode cX8_said 22 = .ok (.aload_n 0, 1) := by decide +kernel
theorem dX8_said_23 : decode cX8_said 23 = .ok (.getfield 58, 3) := by decide +kernel
theorem dX8_said_26 : decode cX8_said 26 = .ok (.iload_n 1, 1) := by decide +kernel
theorem dX8_said_27 : decode cX8_said 27 = .ok (.iaload, 1) := by decide +kernel
theorem dX8_said_28 : decode cX8_said 28 = .ok (.ireturn, 1) := by decide +kernel
theorem dX8_cell_0 : decode cX8_cell 0 = .ok (.iload_n 1, 1) := by decide +kernel
theorem dX8_cell_1 : decode cX8_cell 1 = .ok (.ifCond .lt 9, 3) := by decide +kernel
theorem dX8_cell_4 : decode cX8_cell 4 = .ok (.iload_n 1, 1) := by decide +kernel
theorem dX8_cell_5 : decode cX8_cell 5 = .ok (.bipush 64, 2) := by decide +kernel
theorem dX8_cell_7 : decode cX8_cell 7 = .ok (.if_icmp .lt 7, 3) := by decide +kernel
theorem dX8_cell_10 : decode cX8_cell 10 = .ok (.iconst 0, 1) := by decide +kernel
theorem dX8_cell_11 : decode cX8_cell 11 = .ok (.goto 9, 3) := by decide +kernel
theorem dX8_cell_14 : decode cX8_cell 14 = .ok (.aload_n 0, 1) := by decide +kernel
theorem dX8_cell_15 : decode cX8_cell 15 = .ok (.getfield 61, 3) := by decide +kernel
theorem dX8_cell_18 : decode cX8_cell 18 = .ok (.iload_n 1, 1) := by decide +kernel
theorem dX8_cell_19 : decode cX8_cell 19 = .ok (.iaload, 1) := by decide +kernel
theorem dX8_cell_20 : decode cX8_cell 20 = .ok (.ireturn, 1) := by decide +kernel
theorem dX8_check_0 : decode cX8_check 0 = .ok (.iconst 1, 1) := by decide +kernel
theorem dX8_check_1 : decode cX8_check 1 = .ok (.ireturn, 1) := by decide +kernel
theorem dJ6_bitCount_0f7a4_0 : decode cJ6_bitCount_0f7a4 0 = .ok (.iload_n 0, 1) := by decide +kernel
theorem dJ6_bitCount_0f7a4_1 : decode cJ6_bitCount_0f7a4 1 = .ok (.iload_n 0, 1) := by decide +kernel
theorem dJ6_bitCount_0f7a4_2 : decode cJ6_bitCount_0f7a4 2 = .ok (.iconst 1, 1) := by decide +kernel
theorem dJ6_bitCount_0f7a4_3 : decode cJ6_bitCount_0f7a4 3 = .ok (.iushr, 1) := by decide +kernel
theorem dJ6_bitCount_0f7a4_4 : decode cJ6_bitCount_0f7a4 4 = .ok (.ldc_w 265, 3) := by decide +kernel
theorem dJ6_bitCount_0f7a4_7 : decode cJ6_bitCount_0f7a4 7 = .ok (.iand, 1) := by decide +kernel
theorem dJ6_bitCount_0f7a4_8 : decode cJ6_bitCount_0f7a4 8 = .ok (.isub, 1) := by decide +kernel
theorem dJ6_bitCount_0f7a4_9 : decode cJ6_bitCount_0f7a4 9 = .ok (.istore_n 0, 1) := by decide +kernel
theorem dJ6_bitCount_0f7a4_10 : decode cJ6_bitCount_0f7a4 10 = .ok (.iload_n 0, 1) := by decide +kernel
theorem dJ6_bitCount_0f7a4_11 : decode cJ6_bitCount_0f7a4 11 = .ok (.ldc_w 266, 3) := by decide +kernel
theorem dJ6_bitCount_0f7a4_14 : decode cJ6_bitCount_0f7a4 14 = .ok (.iand, 1) := by decide +kernel
theorem dJ6_bitCount_0f7a4_15 : decode cJ6_bitCount_0f7a4 15 = .ok (.iload_n 0, 1) := by decide +kernel
theorem dJ6_bitCount_0f7a4_16 : decode cJ6_bitCount_0f7a4 16 = .ok (.iconst 2, 1) := by decide +kernel
theorem dJ6_bitCount_0f7a4_17 : decode cJ6_bitCount_0f7a4 17 = .ok (.iushr, 1) := by decide +kernel
theorem dJ6_bitCount_0f7a4_18 : decode cJ6_bitCount_0f7a4 18 = .ok (.ldc_w 266, 3) := by decide +kernel
theorem dJ6_bitCount_0f7a4_21 : decode cJ6_bitCount_0f7a4 21 = .ok (.iand, 1) := by decide +kernel
theorem dJ6_bitCount_0f7a4_22 : decode cJ6_bitCount_0f7a4 22 = .ok (.iadd, 1) := by decide +kernel
theorem dJ6_bitCount_0f7a4_23 : decode cJ6_bitCount_0f7a4 23 = .ok (.istore_n 0, 1) := by decide +kernel
theorem dJ6_bitCount_0f7a4_24 : decode cJ6_bitCount_0f7a4 24 = .ok (.iload_n 0, 1) := by decide +kernel
theorem dJ6_bitCount_0f7a4_25 : decode cJ6_bitCount_0f7a4 25 = .ok (.iload_n 0, 1) := by decide +kernel
theorem dJ6_bitCount_0f7a4_26 : decode cJ6_bitCount_0f7a4 26 = .ok (.iconst 4, 1) := by decide +kernel
theorem dJ6_bitCount_0f7a4_27 : decode cJ6_bitCount_0f7a4 27 = .ok (.iushr, 1) := by decide +kernel
theorem dJ6_bitCount_0f7a4_28 : decode cJ6_bitCount_0f7a4 28 = .ok (.iadd, 1) := by decide +kernel
theorem dJ6_bitCount_0f7a4_29 : decode cJ6_bitCount_0f7a4 29 = .ok (.ldc_w 267, 3) := by decide +kernel
theorem dJ6_bitCount_0f7a4_32 : decode cJ6_bitCount_0f7a4 32 = .ok (.iand, 1) := by decide +kernel
theorem dJ6_bitCount_0f7a4_33 : decode cJ6_bitCount_0f7a4 33 = .ok (.istore_n 0, 1) := by decide +kernel
theorem dJ6_bitCount_0f7a4_34 : decode cJ6_bitCount_0f7a4 34 = .ok (.iload_n 0, 1) := by decide +kernel
theorem dJ6_bitCount_0f7a4_35 : decode cJ6_bitCount_0f7a4 35 = .ok (.iload_n 0, 1) := by decide +kernel
theorem dJ6_bitCount_0f7a4_36 : decode cJ6_bitCount_0f7a4 36 = .ok (.bipush 8, 2) := by decide +kernel
theorem dJ6_bitCount_0f7a4_38 : decode cJ6_bitCount_0f7a4 38 = .ok (.iushr, 1) := by decide +kernel
theorem dJ6_bitCount_0f7a4_39 : decode cJ6_bitCount_0f7a4 39 = .ok (.iadd, 1) := by decide +kernel
theorem dJ6_bitCount_0f7a4_40 : decode cJ6_bitCount_0f7a4 40 = .ok (.istore_n 0, 1) := by decide +kernel
theorem dJ6_bitCount_0f7a4_41 : decode cJ6_bitCount_0f7a4 41 = .ok (.iload_n 0, 1) := by decide +kernel
theorem dJ6_bitCount_0f7a4_42 : decode cJ6_bitCount_0f7a4 42 = .ok (.iload_n 0, 1) := by decide +kernel
theorem dJ6_bitCount_0f7a4_43 : decode cJ6_bitCount_0f7a4 43 = .ok (.bipush 16, 2) := by decide +kernel
theorem dJ6_bitCount_0f7a4_45 : decode cJ6_bitCount_0f7a4 45 = .ok (.iushr, 1) := by decide +kernel
theorem dJ6_bitCount_0f7a4_46 : decode cJ6_bitCount_0f7a4 46 = .ok (.iadd, 1) := by decide +kernel
theorem dJ6_bitCount_0f7a4_47 : decode cJ6_bitCount_0f7a4 47 = .ok (.istore_n 0, 1) := by decide +kernel
theorem dJ6_bitCount_0f7a4_48 : decode cJ6_bitCount_0f7a4 48 = .ok (.iload_n 0, 1) := by decide +kernel
theorem dJ6_bitCount_0f7a4_49 : decode cJ6_bitCount_0f7a4 49 = .ok (.bipush 63, 2) := by decide +kernel
theorem dJ6_bitCount_0f7a4_51 : decode cJ6_bitCount_0f7a4 51 = .ok (.iand, 1) := by decide +kernel
theorem dJ6_bitCount_0f7a4_52 : decode cJ6_bitCount_0f7a4 52 = .ok (.ireturn, 1) := by decide +kernel
theorem dJ9_floorMod_7cf53_0 : decode cJ9_floorMod_7cf53 0 = .ok (.iload_n 0, 1) := by decide +kernel
theorem dJ9_floorMod_7cf53_1 : decode cJ9_floorMod_7cf53 1 = .ok (.iload_n 1, 1) := by decide +kernel
theorem dJ9_floorMod_7cf53_2 : decode cJ9_floorMod_7cf53 2 = .ok (.irem, 1) := by decide +kernel
end
section
theorem dJ9_floorMod_7cf53_3 : decode cJ9_floorMod_7cf53 3 = .ok (.istore_n 2, 1) := by decide +kernel
theorem dJ9_floorMod_7cf53_4 : decode cJ9_floorMod_7cf53 4 = .ok (.iload_n 0, 1) := by decide +kernel
theorem dJ9_floorMod_7cf53_5 : decode cJ9_floorMod_7cf53 5 = .ok (.iload_n 1, 1) := by decide +kernel
theorem dJ9_floorMod_7cf53_6 : decode cJ9_floorMod_7cf53 6 = .ok (.ixor, 1) := by decide +kernel
theorem dJ9_floorMod_7cf53_7 : decode cJ9_floorMod_7cf53 7 = .ok (.ifCond .ge 11, 3) := by decide +kernel
theorem dJ9_floorMod_7cf53_10 : decode cJ9_floorMod_7cf53 10 = .ok (.iload_n 2, 1) := by decide +kernel
theorem dJ9_floorMod_7cf53_11 : decode cJ9_floorMod_7cf53 11 = .ok (.ifCond .eq 7, 3) := by decide +kernel
theorem dJ9_floorMod_7cf53_14 : decode cJ9_floorMod_7cf53 14 = .ok (.iload_n 2, 1) := by decide +kernel
theorem dJ9_floorMod_7cf53_15 : decode cJ9_floorMod_7cf53 15 = .ok (.iload_n 1, 1) := by decide +kernel
theorem dJ9_floorMod_7cf53_16 : decode cJ9_floorMod_7cf53 16 = .ok (.iadd, 1) := by decide +kernel
theorem dJ9_floorMod_7cf53_17 : decode cJ9_floorMod_7cf53 17 = .ok (.ireturn, 1) := by decide +kernel
theorem dJ9_floorMod_7cf53_18 : decode cJ9_floorMod_7cf53 18 = .ok (.iload_n 2, 1) := by decide +kernel
theorem dJ9_floorMod_7cf53_19 : decode cJ9_floorMod_7cf53 19 = .ok (.ireturn, 1) := by decide +kernel
theorem dJ9_max_7cf53_0 : decode cJ9_max_7cf53 0 = .ok (.iload_n 0, 1) := by decide +kernel
theorem dJ9_max_7cf53_1 : decode cJ9_max_7cf53 1 = .ok (.iload_n 1, 1) := by decide +kernel
theorem dJ9_max_7cf53_2 : decode cJ9_max_7cf53 2 = .ok (.if_icmp .lt 7, 3) := by decide +kernel
theorem dJ9_max_7cf53_5 : decode cJ9_max_7cf53 5 = .ok (.iload_n 0, 1) := by decide +kernel
theorem dJ9_max_7cf53_6 : decode cJ9_max_7cf53 6 = .ok (.goto 4, 3) := by decide +kernel
theorem dJ9_max_7cf53_9 : decode cJ9_max_7cf53 9 = .ok (.iload_n 1, 1) := by decide +kernel
theorem dJ9_max_7cf53_10 : decode cJ9_max_7cf53 10 = .ok (.ireturn, 1) := by decide +kernel
theorem dJ9_min_7cf53_0 : decode cJ9_min_7cf53 0 = .ok (.iload_n 0, 1) := by decide +kernel
theorem dJ9_min_7cf53_1 : decode cJ9_min_7cf53 1 = .ok (.iload_n 1, 1) := by decide +kernel
theorem dJ9_min_7cf53_2 : decode cJ9_min_7cf53 2 = .ok (.if_icmp .gt 7, 3) := by decide +kernel
theorem dJ9_min_7cf53_5 : decode cJ9_min_7cf53 5 = .ok (.iload_n 0, 1) := by decide +kernel
theorem dJ9_min_7cf53_6 : decode cJ9_min_7cf53 6 = .ok (.goto 4, 3) := by decide +kernel
theorem dJ9_min_7cf53_9 : decode cJ9_min_7cf53 9 = .ok (.iload_n 1, 1) := by decide +kernel
theorem dJ9_min_7cf53_10 : decode cJ9_min_7cf53 10 = .ok (.ireturn, 1) := by decide +kernel
end
section
/-- the cells: those of the class, then those of the reference, in the order in which the constructors make them -/
def am_shp : List ((Nat × List (Option Nat)) ⊕ (Nat × Nat)) := [.inl (7, [some 1, some 12, some 15, some 21, some 23, some 25, some 30, some 35, some 36, some 41, some 46, none]), .inl (5, [some 2, some 3, some 4, some 9, some 10, some 11, none]), .inr (0, 24), .inr (0, 2), .inl (3, [some 5, some 6, some 7, some 8, none]), .inr (0, 60), .inr (0, 60), .inr (0, 60), .inr (0, 60), .inr (0, 60), .inr (0, 60), .inr (0, 60), .inl (1, [some 13, some 14]), .inr (0, 60), .inr (0, 24), .inl (2, [some 16, some 17, some 18, some 19, some 20]), .inr (0, 2), .inr (0, 24), .inr (0, 24), .inr (0, 24), .inr (0, 24), .inl (0, [some 22]), .inr (0, 61), .inl (6, [some 24]), .inr (1, 241), .inl (3, [some 26, some 27, some 28, some 29, none]), .inr (0, 240), .inr (0, 240), .inr (0, 240), .inr (0, 240), .inl (3, [some 31, some 32, some 33, some 34, none]), .inr (0, 240), .inr (0, 240), .inr (0, 240), .inr (0, 240), .inr (0, 64), .inl (4, [some 37, some 38, some 39, some 40, none, none]), .inr (0, 32), .inr (0, 48), .inr (0, 64), .inr (0, 50), .inl (4, [some 42, some 43, some 44, some 45, none, none]), .inr (0, 32), .inr (0, 48), .inr (0, 64), .inr (0, 50), .inl (4, [some 47, some 48, some 49, some 50, none, none]), .inr (0, 32), .inr (0, 48), .inr (0, 64), .inr (0, 50), .inl (8, [none, some 52, none, some 53, some 54, some 55, some 56, some 57, some 58, some 59, some 60, some 61, some 62, some 63, some 64, some 65, some 66, some 67, none, none, some 68, some 69, some 70, some 71, some 72, none, some 73, some 74]), .inr (0, 24), .inr (0, 60), .inr (0, 60), .inr (0, 60), .inr (0, 60), .inr (0, 2), .inr (0, 64), .inr (0, 60), .inr (0, 60), .inr (0, 24), .inr (0, 24), .inr (0, 24), .inr (0, 24), .inr (0, 3200), .inr (0, 2), .inr (0, 62), .inr (0, 50), .inr (0, 64), .inr (0, 32), .inr (0, 64), .inr (0, 24), .inr (0, 2), .inr (0, 2)]
abbrev mM : Nat := 51
abbrev m_classes : Nat := 52
abbrev m_ops : Nat := 53
abbrev m_first : Nat := 54
abbrev m_second : Nat := 55
abbrev m_third : Nat := 56
abbrev m_registers : Nat := 57
abbrev m_memory : Nat := 58
abbrev m_before : Nat := 59
abbrev m_behind : Nat := 60
abbrev m_way : Nat := 61
abbrev m_weights : Nat := 62
abbrev m_order : Nat := 63
abbrev m_homes : Nat := 64
abbrev m_code : Nat := 65
abbrev m_items : Nat := 66
abbrev m_firstItem : Nat := 67
abbrev m_said : Nat := 68
abbrev m_left : Nat := 69
abbrev m_held : Nat := 70
abbrev m_slots : Nat := 71
abbrev m_now : Nat := 72
abbrev m_fetches : Nat := 73
abbrev m_into : Nat := 74
abbrev m_ds : List (Option Nat) := [none, some 52, none, some 53, some 54, some 55, some 56, some 57, some 58, some 59, some 60, some 61, some 62, some 63, some 64, some 65, some 66, some 67, none, none, some 68, some 69, some 70, some 71, some 72, none, some 73, some 74]
/-! THE SHAPE: behind the two constructors no cell is made any more; a heap is then what its whole numbers are: I (object, field) and A (row, place). -/
abbrev am_C : Type := (Nat × List (Option Nat)) ⊕ (Nat × Nat)
def am_flds (f : Nat → Int32) : Nat → List (Option Nat) → List Value
  | _, [] => []
  | k, none :: t => .int (f k) :: am_flds f (k + 1) t
  | k, some q :: t => .ref q :: am_flds f (k + 1) t
def am_cell (I A : Nat → Nat → Int32) (a : Nat) (c : am_C) : va_E := match c with
  | .inl o => .inr (o.1, am_flds (I a) 0 o.2)
  | .inr r => .inl (r.1, r.2, .inl (A a))
def hp (I A : Nat → Nat → Int32) : List va_E := am_shp.mapIdx (fun a c => am_cell I A a c)
def upA (A : Nat → Nat → Int32) (a : Nat) (g : Nat → Int32) : Nat → Nat → Int32 := fun b => if b = a then g else A b
def upI (I : Nat → Nat → Int32) (a j : Nat) (v : Int32) : Nat → Nat → Int32 := fun b k => if b = a ∧ k = j then v else I b k
theorem upA_s {A : Nat → Nat → Int32} {a : Nat} {g : Nat → Int32} : upA A a g a = g := by simp [upA]
theorem upA_n {A : Nat → Nat → Int32} {a b : Nat} {g : Nat → Int32} (h : b ≠ a) : upA A a g b = A b := by simp [upA, h]
theorem upA_u {A : Nat → Nat → Int32} {a : Nat} {f g : Nat → Int32} : upA (upA A a f) a g = upA A a g := by
  funext b
  by_cases h : b = a <;> simp [upA, h]
theorem upA_c {A : Nat → Nat → Int32} {a b : Nat} {f g : Nat → Int32} (h : a ≠ b) : upA (upA A a f) b g = upA (upA A b g) a f := by
  funext c
  by_cases h1 : c = a
  · subst h1; simp [upA, h]
  · by_cases h2 : c = b
    · subst h2; simp [upA, h1]
    · simp [upA, h1, h2]
theorem upA_r2 {A : Nat → Nat → Int32} {a b : Nat} {f g x : Nat → Int32} (h : a ≠ b) : upA (upA (upA A a f) b x) a g = upA (upA A a g) b x := by
  rw [upA_c (Ne.symm h), upA_u]
theorem upA_r3 {A : Nat → Nat → Int32} {a b c : Nat} {f g x y : Nat → Int32} (h : a ≠ b) (h2 : a ≠ c) : upA (upA (upA (upA A a f) b x) c y) a g = upA (upA (upA A a g) b x) c y := by
  rw [upA_c (Ne.symm h2), upA_r2 h]
theorem upA_r4 {A : Nat → Nat → Int32} {a b c d : Nat} {f g x y z : Nat → Int32} (h : a ≠ b) (h2 : a ≠ c) (h3 : a ≠ d) : upA (upA (upA (upA (upA A a f) b x) c y) d z) a g = upA (upA (upA (upA A a g) b x) c y) d z := by
  rw [upA_c (Ne.symm h3), upA_r3 h h2]
theorem upA_i {A : Nat → Nat → Int32} {a : Nat} : upA A a (A a) = A := by
  funext b
  by_cases h : b = a
  · subst h; simp [upA]
  · simp [upA, h]
theorem upI_s {I : Nat → Nat → Int32} {a j : Nat} {v : Int32} : upI I a j v a j = v := by simp [upI]
theorem upI_n {I : Nat → Nat → Int32} {a j b k : Nat} {v : Int32} (h : b ≠ a ∨ k ≠ j) : upI I a j v b k = I b k := by
  unfold upI
  rw [if_neg]
  intro z
  rcases h with h | h
  · exact h z.1
  · exact h z.2
theorem upI_u {I : Nat → Nat → Int32} {a j : Nat} {v u : Int32} : upI (upI I a j v) a j u = upI I a j u := by
  funext b k
  by_cases h : b = a ∧ k = j <;> simp [upI, h]
theorem upI_i {I : Nat → Nat → Int32} {a j : Nat} : upI I a j (I a j) = I := by
  funext b k
  by_cases h : b = a ∧ k = j
  · obtain ⟨rfl, rfl⟩ := h; simp [upI]
  · simp [upI, h]
theorem am_flds_len (f : Nat → Int32) : ∀ (ds : List (Option Nat)) (k : Nat), (am_flds f k ds).length = ds.length
  | [], _ => rfl
  | none :: t, k => by simp [am_flds, am_flds_len f t (k + 1)]
  | some q :: t, k => by simp [am_flds, am_flds_len f t (k + 1)]
theorem am_flds_i (f : Nat → Int32) : ∀ (ds : List (Option Nat)) (k j : Nat), ds[j]? = some none → (am_flds f k ds)[j]? = some (.int (f (k + j)))
  | [], _, _, h => by simp at h
  | d :: t, k, 0, h => by
    simp at h
    subst h
    simp [am_flds]
  | d :: t, k, j + 1, h => by
    have h1 := am_flds_i f t (k + 1) j (by simpa using h)
    cases d <;> simp [am_flds, h1] <;> congr 1 <;> omega
theorem am_flds_r (f : Nat → Int32) : ∀ (ds : List (Option Nat)) (k j : Nat) (q : Nat), ds[j]? = some (some q) → (am_flds f k ds)[j]? = some (.ref q)
  | [], _, _, _, h => by simp at h
  | d :: t, k, 0, q, h => by
    simp at h
    subst h
    simp [am_flds]
  | d :: t, k, j + 1, q, h => by
    have h1 := am_flds_r f t (k + 1) j q (by simpa using h)
    cases d <;> simp [am_flds, h1]
theorem am_flds_set (f : Nat → Int32) (v : Int32) : ∀ (ds : List (Option Nat)) (k j : Nat), ds[j]? = some none → (am_flds f k ds).set j (.int v) = am_flds (fun x => if x = k + j then v else f x) k ds
  | [], _, _, h => by simp at h
  | d :: t, k, 0, h => by
    simp at h
    subst h
    have key : ∀ (l : List (Option Nat)) (m : Nat), k < m → am_flds f m l = am_flds (fun x => if x = k + 0 then v else f x) m l := by
      intro l
      induction l with
      | nil => intro m _; rfl
      | cons d l ih =>
        intro m hm
        cases d with
        | none => simp only [am_flds]; rw [ih (m + 1) (by omega)]; congr 2; rw [if_neg (by omega)]
        | some q => simp only [am_flds]; rw [ih (m + 1) (by omega)]
    simp only [am_flds, List.set_cons_zero]
    rw [key t (k + 1) (by omega)]
    simp
  | d :: t, k, j + 1, h => by
    have h1 := am_flds_set f v t (k + 1) j (by simpa using h)
    have e : (fun x => if x = k + 1 + j then v else f x) = (fun x => if x = k + (j + 1) then v else f x) := by
      funext x
      rw [show k + 1 + j = k + (j + 1) by omega]
    rw [e] at h1
    cases d with
    | none => simp only [am_flds, List.set_cons_succ]; rw [h1]; congr 2; rw [if_neg (by omega)]
    | some q => simp only [am_flds, List.set_cons_succ]; rw [h1]
theorem hp_get {I A : Nat → Nat → Int32} {a : Nat} {c : am_C} (h : am_shp[a]? = some c) : (hp I A)[a]? = some (am_cell I A a c) := by simp [hp, h]
theorem hp_setA {I A : Nat → Nat → Int32} {a q N : Nat} {g : Nat → Int32} (h : am_shp[a]? = some (.inr (q, N))) : (hp I A).set a (.inl (q, N, .inl g)) = hp I (upA A a g) := by
  apply List.ext_getElem?
  intro b
  by_cases hb : b = a
  · subst hb
    have hl : b < (hp I A).length := (List.getElem?_eq_some_iff.mp (hp_get h)).1
    rw [List.getElem?_set_self hl, hp_get h]
    simp [am_cell, upA]
  · rw [List.getElem?_set_ne (Ne.symm hb)]
    simp only [hp, List.getElem?_mapIdx]
    cases am_shp[b]? with
    | none => rfl
    | some c => cases c with
      | inl o => rfl
      | inr r => simp [am_cell, upA, hb]
theorem hp_setI {I A : Nat → Nat → Int32} {a ci j : Nat} {ds : List (Option Nat)} {v : Int32} (h : am_shp[a]? = some (.inl (ci, ds))) (hj : ds[j]? = some none) : (hp I A).set a (.inr (ci, (am_flds (I a) 0 ds).set j (.int v))) = hp (upI I a j v) A := by
  apply List.ext_getElem?
  intro b
  by_cases hb : b = a
  · subst hb
    have hl : b < (hp I A).length := (List.getElem?_eq_some_iff.mp (hp_get h)).1
    rw [List.getElem?_set_self hl, hp_get h, am_flds_set _ _ _ _ _ hj]
    simp only [am_cell]
    congr 4
    funext x
    simp [upI]
  · rw [List.getElem?_set_ne (Ne.symm hb)]
    simp only [hp, List.getElem?_mapIdx]
    cases am_shp[b]? with
    | none => rfl
    | some c => cases c with
      | inl o => simp only [Option.map_some, am_cell]; congr 4; funext x; simp [upI, hb]
      | inr r => rfl
theorem V.geti {G : am_G} {Y : am_Y} {R : Room} {Fn : Array Value → State → List Frame → State → Prop} {k n pc : Nat} {ls : List (Nat × Value)} {st : List Value} {I A : Nat → Nat → Int32} {idx a ci j : Nat} {ds : List (Option Nat)} (hd : decode Y.2.1 pc = .ok (.getfield idx, 3)) (hf : am_fd Y.1.cls idx ci j) (hs : am_shp[a]? = some (.inl (ci, ds))) {v : Int32} (hj : ds[j]? = some none) (hv : I a j = v) (kk : V G Y R Fn k n (pc + 3) ls (.int v :: st) (hp I A)) : V G Y R Fn k n pc ls (.ref a :: st) (hp I A) := V.get hd hf (hp_get hs) (by have h := am_flds_i (I a) ds 0 j hj; rw [Nat.zero_add, hv] at h; exact h) kk
theorem V.getr {G : am_G} {Y : am_Y} {R : Room} {Fn : Array Value → State → List Frame → State → Prop} {k n pc : Nat} {ls : List (Nat × Value)} {st : List Value} {I A : Nat → Nat → Int32} {idx a ci j : Nat} {ds : List (Option Nat)} {q : Nat} (hd : decode Y.2.1 pc = .ok (.getfield idx, 3)) (hf : am_fd Y.1.cls idx ci j) (hs : am_shp[a]? = some (.inl (ci, ds))) (hj : ds[j]? = some (some q)) (kk : V G Y R Fn k n (pc + 3) ls (.ref q :: st) (hp I A)) : V G Y R Fn k n pc ls (.ref a :: st) (hp I A) := V.get hd hf (hp_get hs) (am_flds_r (I a) ds 0 j q hj) kk
theorem V.puti {G : am_G} {Y : am_Y} {R : Room} {Fn : Array Value → State → List Frame → State → Prop} {k n pc : Nat} {ls : List (Nat × Value)} {st : List Value} {I A : Nat → Nat → Int32} {idx a ci j : Nat} {ds : List (Option Nat)} {C : String} {v : Int32} (hd : decode Y.2.1 pc = .ok (.putfield idx, 3)) (hf : am_pd Y.1.cls idx ci j .int false C) (hs : am_shp[a]? = some (.inl (ci, ds))) (hj : ds[j]? = some none) (kk : V G Y R Fn k n (pc + 3) ls st (hp (upI I a j v) A)) : V G Y R Fn k n pc ls (.int v :: .ref a :: st) (hp I A) := V.put hd hf (hp_get hs) (by rw [am_flds_len]; exact (List.getElem?_eq_some_iff.mp hj).1) ⟨rfl, rfl⟩ (hp_setI hs hj) kk
theorem V.lda {G : am_G} {Y : am_Y} {R : Room} {Fn : Array Value → State → List Frame → State → Prop} {k n pc : Nat} {ls : List (Nat × Value)} {st : List Value} {I A : Nat → Nat → Int32} {a N i : Nat} {v : Int32} (hd : decode Y.2.1 pc = .ok (.iaload, 1)) (hs : am_shp[a]? = some (.inr (0, N))) (hi : i < N) (hN : N < 2 ^ 31) (hv : A a i = v) (kk : V G Y R Fn k n (pc + 1) ls (.int v :: st) (hp I A)) : V G Y R Fn k n pc ls (.int (nI i) :: .ref a :: st) (hp I A) := V.ialdN hd (hp_get hs) hi hN hv kk
theorem V.ldz {G : am_G} {Y : am_Y} {R : Room} {Fn : Array Value → State → List Frame → State → Prop} {k n pc : Nat} {ls : List (Nat × Value)} {st : List Value} {I A : Nat → Nat → Int32} {a N i : Nat} {v : Int32} (hd : decode Y.2.1 pc = .ok (.baload, 1)) (hs : am_shp[a]? = some (.inr (1, N))) (hi : i < N) (hN : N < 2 ^ 31) (hv : A a i = v) (kk : V G Y R Fn k n (pc + 1) ls (.int v :: st) (hp I A)) : V G Y R Fn k n pc ls (.int (nI i) :: .ref a :: st) (hp I A) := V.zaldN hd (hp_get hs) hi hN hv kk
theorem V.sta {G : am_G} {Y : am_Y} {R : Room} {Fn : Array Value → State → List Frame → State → Prop} {k n pc : Nat} {ls : List (Nat × Value)} {st : List Value} {I A : Nat → Nat → Int32} {a N i : Nat} {x : Int32} {g : Nat → Int32} (hd : decode Y.2.1 pc = .ok (.iastore, 1)) (hs : am_shp[a]? = some (.inr (0, N))) (hi : i < N) (hN : N < 2 ^ 31) (hg : upd (A a) i x = g) (kk : V G Y R Fn k n (pc + 1) ls st (hp I (upA A a g))) : V G Y R Fn k n pc ls (.int x :: .int (nI i) :: .ref a :: st) (hp I A) := V.iastN hd (hp_get hs) hi hN (by rw [hg]; exact hp_setA hs) kk
theorem V.stz {G : am_G} {Y : am_Y} {R : Room} {Fn : Array Value → State → List Frame → State → Prop} {k n pc : Nat} {ls : List (Nat × Value)} {st : List Value} {I A : Nat → Nat → Int32} {a N i : Nat} {x : Int32} {g : Nat → Int32} (hd : decode Y.2.1 pc = .ok (.bastore, 1)) (hs : am_shp[a]? = some (.inr (1, N))) (hi : i < N) (hN : N < 2 ^ 31) (hx : narrow .boolean (.int x) = .int x) (hg : upd (A a) i x = g) (kk : V G Y R Fn k n (pc + 1) ls st (hp I (upA A a g))) : V G Y R Fn k n pc ls (.int x :: .int (nI i) :: .ref a :: st) (hp I A) := V.zastN hd (hp_get hs) hi hN hx (by rw [hg]; exact hp_setA hs) kk
theorem V.len {G : am_G} {Y : am_Y} {R : Room} {Fn : Array Value → State → List Frame → State → Prop} {k n pc : Nat} {ls : List (Nat × Value)} {st : List Value} {I A : Nat → Nat → Int32} {a q N : Nat} (hd : decode Y.2.1 pc = .ok (.arraylength, 1)) (hs : am_shp[a]? = some (.inr (q, N))) (hq : q < 2) (kk : V G Y R Fn k n (pc + 1) ls (.int (nI N) :: st) (hp I A)) : V G Y R Fn k n pc ls (.ref a :: st) (hp I A) := V.alen hd (hp_get hs) hq rfl kk
/-- a contract over the shape: from the numbers I, A to an answer and numbers -/
def Pm (Q : Option Value → (Nat → Nat → Int32) → (Nat → Nat → Int32) → Prop) : Option Value → List va_E → Prop := fun r h => ∃ I' A', h = hp I' A' ∧ Q r I' A'
def Cm (G : am_G) (Y : am_Y) (d lo : Nat) (as : List Value) (I A : Nat → Nat → Int32) (Q : Option Value → (Nat → Nat → Int32) → (Nat → Nat → Int32) → Prop) : Prop := Ct G Y d lo 0 0 as (hp I A) (Pm Q)
theorem Pm.use {G : am_G} {Y : am_Y} {R : Room} {Fn : Array Value → State → List Frame → State → Prop} {k n pc : Nat} {ls : List (Nat × Value)} {st : List Value} {Q : Option Value → (Nat → Nat → Int32) → (Nat → Nat → Int32) → Prop} (kk : ∀ (r : Option Value) (I' A' : Nat → Nat → Int32), Q r I' A' → V G Y R Fn k n pc ls (r.toList ++ st) (hp I' A')) : ∀ (r : Option Value) (h' : List va_E), Pm Q r h' → V G Y R Fn (k - 0) (n - 0) pc ls (r.toList ++ st) h' := by
  intro r h' q
  obtain ⟨I', A', e, hq⟩ := q
  have h1 := kk r I' A' hq
  rw [← e] at h1
  exact h1
theorem Cm.of {G : am_G} {Y : am_Y} {d lo : Nat} {as : List Value} {I A : Nat → Nat → Int32} {Q : Option Value → (Nat → Nat → Int32) → (Nat → Nat → Int32) → Prop} (hy : plainName Y.1.cls = true) (hl : as.length ≤ Y.2.2.1) (hc : as.all (fun v => v.category == 1) = true) (hv : V G Y (am_R d lo 0 0) (am_Fin G 0 0 (Pm Q)) 0 0 0 (am_as 0 as) [] (hp I A)) : Cm G Y d lo as I A Q := Ct.of hy hl (fun v hv => by have h := List.all_eq_true.mp hc v hv; simpa using h) hv
theorem V.ri {G : am_G} {Y : am_Y} {d lo pc : Nat} {Q : Option Value → (Nat → Nat → Int32) → (Nat → Nat → Int32) → Prop} {ls : List (Nat × Value)} {I A : Nat → Nat → Int32} {x : Int32} (hd : decode Y.2.1 pc = .ok (.ireturn, 1)) (hr : Y.2.2.2 = some .int) (hq : Q (some (.int x)) I A) : V G Y (am_R d lo 0 0) (am_Fin G 0 0 (Pm Q)) 0 0 pc ls [.int x] (hp I A) := V.iret hd hr ⟨I, A, rfl, hq⟩
theorem V.rz {G : am_G} {Y : am_Y} {d lo pc : Nat} {Q : Option Value → (Nat → Nat → Int32) → (Nat → Nat → Int32) → Prop} {ls : List (Nat × Value)} {I A : Nat → Nat → Int32} {x : Int32} (hd : decode Y.2.1 pc = .ok (.ireturn, 1)) (hr : Y.2.2.2 = some .boolean) (hx : narrow .boolean (.int x) = .int x) (hq : Q (some (.int x)) I A) : V G Y (am_R d lo 0 0) (am_Fin G 0 0 (Pm Q)) 0 0 pc ls [.int x] (hp I A) := V.zret hd hr hx ⟨I, A, rfl, hq⟩
theorem V.rv {G : am_G} {Y : am_Y} {d lo pc : Nat} {Q : Option Value → (Nat → Nat → Int32) → (Nat → Nat → Int32) → Prop} {ls : List (Nat × Value)} {I A : Nat → Nat → Int32} (hd : decode Y.2.1 pc = .ok (.return_, 1)) (hr : Y.2.2.2 = none) (hq : Q none I A) : V G Y (am_R d lo 0 0) (am_Fin G 0 0 (Pm Q)) 0 0 pc ls [] (hp I A) := V.vret hd hr ⟨I, A, rfl, hq⟩
theorem V.ra {G : am_G} {Y : am_Y} {d lo pc : Nat} {Q : Option Value → (Nat → Nat → Int32) → (Nat → Nat → Int32) → Prop} {ls : List (Nat × Value)} {I A : Nat → Nat → Int32} {a : Nat} {C : String} (hd : decode Y.2.1 pc = .ok (.areturn, 1)) (hr : Y.2.2.2 = some (.object C)) (hq : Q (some (.ref a)) I A) : V G Y (am_R d lo 0 0) (am_Fin G 0 0 (Pm Q)) 0 0 pc ls [.ref a] (hp I A) := V.aret hd hr (Or.inl ⟨_, rfl⟩) ⟨I, A, rfl, hq⟩
theorem V.cS {G : am_G} {Y : am_Y} {R : Room} {Fn : Array Value → State → List Frame → State → Prop} {k n pc : Nat} {ls : List (Nat × Value)} {st : List Value} {I A : Nat → Nat → Int32} {Y' : am_Y} {d' lo' idx : Nat} {As st0 : List Value} {Q' : Option Value → (Nat → Nat → Int32) → (Nat → Nat → Int32) → Prop} (hd : decode Y.2.1 pc = .ok (.invokestatic idx, 3)) (hsite : am_site Y.1.cls idx Y' As.length) (hstat : Cond.static Y'.1 ∈ am_tbl) (hC : Cm G Y' d' lo' As I A Q') (hR : d' + 1 ≤ R.frames ∧ 8 + (Y'.2.2.1 + 11) + lo' ≤ R.locals) (hst8 : (st.map fun v => v.category).sum ≤ 8) (hs0 : st0 = As.reverse ++ st) (kk : ∀ (r : Option Value) (I' A' : Nat → Nat → Int32), Q' r I' A' → V G Y R Fn k n (pc + 3) ls (r.toList ++ st) (hp I' A')) : V G Y R Fn k n pc ls st0 (hp I A) := V.callS (mc' := 0) (ms' := 0) (Post' := Pm Q') hd hsite hstat hC hR (Nat.zero_le _) (Nat.zero_le _) hst8 hs0 (Pm.use kk)
theorem V.cSN {G : am_G} {Y : am_Y} {R : Room} {Fn : Array Value → State → List Frame → State → Prop} {k n pc : Nat} {ls : List (Nat × Value)} {st : List Value} {I A : Nat → Nat → Int32} {Y' : am_Y} {d' lo' idx : Nat} {As st0 : List Value} {Q' : Option Value → (Nat → Nat → Int32) → (Nat → Nat → Int32) → Prop} {host : String} (hd : decode Y.2.1 pc = .ok (.invokestatic idx, 3)) (hsite : am_siteN Y.1.cls idx Y' As.length host) (hstat : Cond.static Y'.1 ∈ am_tbl) (hC : Cm G Y' d' lo' As I A Q') (hR : d' + 1 ≤ R.frames ∧ 8 + (Y'.2.2.1 + 11) + lo' ≤ R.locals) (hst8 : (st.map fun v => v.category).sum ≤ 8) (hs0 : st0 = As.reverse ++ st) (kk : ∀ (r : Option Value) (I' A' : Nat → Nat → Int32), Q' r I' A' → V G Y R Fn k n (pc + 3) ls (r.toList ++ st) (hp I' A')) : V G Y R Fn k n pc ls st0 (hp I A) := V.callSN (mc' := 0) (ms' := 0) (Post' := Pm Q') hd hsite hstat hC hR (Nat.zero_le _) (Nat.zero_le _) hst8 hs0 (Pm.use kk)
theorem V.cV {G : am_G} {Y : am_Y} {R : Room} {Fn : Array Value → State → List Frame → State → Prop} {k n pc : Nat} {ls : List (Nat × Value)} {st : List Value} {I A : Nat → Nat → Int32} {Y' : am_Y} {d' lo' idx : Nat} {As st0 : List Value} {Q' : Option Value → (Nat → Nat → Int32) → (Nat → Nat → Int32) → Prop} {a ci N : Nat} {T : u_T} {ds : List (Option Nat)} (hd : decode Y.2.1 pc = .ok (.invokevirtual idx, 3)) (hsite : am_site Y.1.cls idx Y' As.length) (hinst : Cond.instanceMethod Y'.1 ∈ am_tbl) (hsel : Cond.selects Y'.1.cls Y'.1 Y'.1 ∈ am_tbl) (hcl : am_cl[ci]? = some (Y'.1.cls, T, N)) (hs : am_shp[a]? = some (.inl (ci, ds))) (hC : Cm G Y' d' lo' (.ref a :: As) I A Q') (hR : d' + 1 ≤ R.frames ∧ 8 + (Y'.2.2.1 + 11) + lo' ≤ R.locals) (hst8 : (st.map fun v => v.category).sum ≤ 8) (hs0 : st0 = As.reverse ++ .ref a :: st) (kk : ∀ (r : Option Value) (I' A' : Nat → Nat → Int32), Q' r I' A' → V G Y R Fn k n (pc + 3) ls (r.toList ++ st) (hp I' A')) : V G Y R Fn k n pc ls st0 (hp I A) := V.callV (mc' := 0) (ms' := 0) (Post' := Pm Q') hd hsite hinst hsel hcl (hp_get hs) hC hR (Nat.zero_le _) (Nat.zero_le _) hst8 hs0 (Pm.use kk)
theorem V.cVN {G : am_G} {Y : am_Y} {R : Room} {Fn : Array Value → State → List Frame → State → Prop} {k n pc : Nat} {ls : List (Nat × Value)} {st : List Value} {I A : Nat → Nat → Int32} {Y' : am_Y} {d' lo' idx : Nat} {As st0 : List Value} {Q' : Option Value → (Nat → Nat → Int32) → (Nat → Nat → Int32) → Prop} {host : String} {a ci N : Nat} {T : u_T} {ds : List (Option Nat)} (hd : decode Y.2.1 pc = .ok (.invokevirtual idx, 3)) (hsite : am_siteN Y.1.cls idx Y' As.length host) (hinst : Cond.instanceMethod Y'.1 ∈ am_tbl) (hsel : Cond.selects Y'.1.cls Y'.1 Y'.1 ∈ am_tbl) (hcl : am_cl[ci]? = some (Y'.1.cls, T, N)) (hs : am_shp[a]? = some (.inl (ci, ds))) (hC : Cm G Y' d' lo' (.ref a :: As) I A Q') (hR : d' + 1 ≤ R.frames ∧ 8 + (Y'.2.2.1 + 11) + lo' ≤ R.locals) (hst8 : (st.map fun v => v.category).sum ≤ 8) (hs0 : st0 = As.reverse ++ .ref a :: st) (kk : ∀ (r : Option Value) (I' A' : Nat → Nat → Int32), Q' r I' A' → V G Y R Fn k n (pc + 3) ls (r.toList ++ st) (hp I' A')) : V G Y R Fn k n pc ls st0 (hp I A) := V.callVN (mc' := 0) (ms' := 0) (Post' := Pm Q') hd hsite hinst hsel hcl (hp_get hs) hC hR (Nat.zero_le _) (Nat.zero_le _) hst8 hs0 (Pm.use kk)
theorem V.st {G : am_G} {Y : am_Y} {R : Room} {Fn : Array Value → State → List Frame → State → Prop} {k n pc : Nat} {ls : List (Nat × Value)} {st : List Value} {I A : Nat → Nat → Int32} {st' : List Value} (e : st = st') (kk : V G Y R Fn k n pc ls st' (hp I A)) : V G Y R Fn k n pc ls st (hp I A) := e ▸ kk
theorem am_bz (c : Prop) [Decidable c] : narrow .boolean (.int (if c then 1 else 0)) = .int (if c then 1 else 0) := by by_cases h : c <;> simp [h] <;> decide
noncomputable def bI (c : Prop) : Int32 := @ite Int32 c (Classical.propDecidable c) 1 0
theorem bI_t {c : Prop} (h : c) : bI c = 1 := if_pos h
theorem bI_f {c : Prop} (h : ¬ c) : bI c = 0 := if_neg h
theorem am_s1 {c : Prop} (h : c) : some (Value.int (nI 1)) = some (Value.int (bI c)) := by rw [bI_t h]; rfl
theorem am_s0 {c : Prop} (h : ¬ c) : some (Value.int (nI 0)) = some (Value.int (bI c)) := by rw [bI_f h]; rfl
theorem bI_bz (c : Prop) : narrow .boolean (.int (bI c)) = .int (bI c) := by
  by_cases h : c
  · rw [bI_t h]; rfl
  · rw [bI_f h]; rfl
theorem V.lse {G : am_G} {Y : am_Y} {R : Room} {Fn : Array Value → State → List Frame → State → Prop} {k n pc : Nat} {ls : List (Nat × Value)} {st : List Value} {I A : Nat → Nat → Int32} {ls' : List (Nat × Value)} (e : ls = ls') (kk : V G Y R Fn k n pc ls' st (hp I A)) : V G Y R Fn k n pc ls st (hp I A) := e ▸ kk
theorem V.fewer {G : am_G} {Y : am_Y} {R : Room} {Fn : Array Value → State → List Frame → State → Prop} {k n pc : Nat} {ls : List (Nat × Value)} {st : List Value} {I A : Nat → Nat → Int32} {ls' : List (Nat × Value)} (ps : List Nat) (e : ps.filterMap (fun i => ls[i]?) = ls') (kk : V G Y R Fn k n pc ls' st (hp I A)) : V G Y R Fn k n pc ls st (hp I A) := by
  intro p l e0 s m args below meth c H locs cells slots lsr X w S hl hc hn
  refine kk p l e0 s m args below meth c H locs cells slots lsr X w S ⟨hl.1, hl.2.1, fun q hq => ?_⟩ hc hn
  obtain ⟨z, hz, rfl⟩ := List.mem_map.mp hq
  rw [← e] at hz
  obtain ⟨i, -, hi⟩ := List.mem_filterMap.mp hz
  exact hl.2.2 _ (List.mem_map.mpr ⟨z, List.mem_of_getElem? hi, rfl⟩)
theorem V.hpe {G : am_G} {Y : am_Y} {R : Room} {Fn : Array Value → State → List Frame → State → Prop} {k n pc : Nat} {ls : List (Nat × Value)} {st : List Value} {I A : Nat → Nat → Int32} {I' A' : Nat → Nat → Int32} (e1 : I = I') (e2 : A = A') (kk : V G Y R Fn k n pc ls st (hp I' A')) : V G Y R Fn k n pc ls st (hp I A) := by subst e1; subst e2; exact kk
end
section
theorem nIc_0 : nI 0 = 0 := rfl
theorem nIc_1 : nI 1 = 1 := rfl
theorem nIc_2 : nI 2 = 2 := rfl
theorem nIc_3 : nI 3 = 3 := rfl
theorem nIc_4 : nI 4 = 4 := rfl
theorem nIc_5 : nI 5 = 5 := rfl
theorem nIc_6 : nI 6 = 6 := rfl
theorem nIc_7 : nI 7 = 7 := rfl
theorem nIc_8 : nI 8 = 8 := rfl
theorem nIc_9 : nI 9 = 9 := rfl
theorem nIc_10 : nI 10 = 10 := rfl
theorem nIc_11 : nI 11 = 11 := rfl
theorem nIc_12 : nI 12 = 12 := rfl
theorem nIc_16 : nI 16 = 16 := rfl
theorem nIc_24 : nI 24 = 24 := rfl
theorem nIc_32 : nI 32 = 32 := rfl
theorem nIc_50 : nI 50 = 50 := rfl
theorem nIc_60 : nI 60 = 60 := rfl
theorem nIc_63 : nI 63 = 63 := rfl
theorem nIc_64 : nI 64 = 64 := rfl
theorem nIc_100 : nI 100 = 100 := rfl
def mz_isV (nv v : Int32) : Prop := ¬ v < 0 ∧ ¬ nv ≤ v
theorem mz_nat {nv : Nat} {v : Int32} (hn : nv < 2 ^ 31) (h : mz_isV (nI nv) v) : ∃ j : Nat, j < nv ∧ v = nI j := by
  obtain ⟨j, hj, rfl⟩ := nI_of h.1
  exact ⟨j, by have := h.2; rw [nI_leI hn hj] at this; omega, rfl⟩
theorem mz_lt {nv : Nat} {v : Int32} (hn : nv < 2 ^ 31) (h : ¬ v < 0) (h2 : v < nI nv) : ∃ j : Nat, j < nv ∧ v = nI j := by
  obtain ⟨j, hj, rfl⟩ := nI_of h
  exact ⟨j, by rw [nI_ltI hj hn] at h2; exact h2, rfl⟩
theorem mz_le {nv : Nat} {v : Int32} (hn : nv < 2 ^ 31) (h : ¬ v < 0) (h2 : v ≤ nI nv) : ∃ j : Nat, j ≤ nv ∧ v = nI j := by
  obtain ⟨j, hj, rfl⟩ := nI_of h
  exact ⟨j, by rw [nI_leI hj hn] at h2; exact h2, rfl⟩
theorem mz_ngt {nv : Nat} {v : Int32} (hn : nv < 2 ^ 31) (h : ¬ v < 0) (h2 : ¬ nI nv < v) : ∃ j : Nat, j ≤ nv ∧ v = nI j := by
  obtain ⟨j, hj, rfl⟩ := nI_of h
  exact ⟨j, by rw [nI_ltI hn hj] at h2; omega, rfl⟩
set_option maxRecDepth 100000 in
set_option maxHeartbeats 4000000 in
theorem md_isValue {G : am_G} (I A : Nat → Nat → Int32) (v : Int32) : Cm G MX8_isValue 0 0 [.ref mM, .int v] I A (fun r I' A' => r = some (.int (bI (mz_isV (I mM 0) v))) ∧ I = I' ∧ A = A') := by
  refine Cm.of (by decide) (Nat.le_of_ble_eq_true rfl) rfl ?_
  show V G MX8_isValue (am_R 0 0 0 0) _ 0 0 0 [(0, .ref mM), (1, .int v)] [] (hp I A)
  refine V.iload_n (j := 1) rfl dX8_isValue_0 ?_
  refine V.if_lt (tgt := 16) dX8_isValue_1 (by decide) (fun c1 => ?_) (fun c1 => ?_)
  · refine V.iconst (v := nI 0) (by decide) dX8_isValue_16 ?_
    refine V.rz dX8_isValue_17 rfl (by decide) ?_
    exact ⟨by first | exact am_s1 (by simp_all [mz_isV]) | exact am_s0 (by simp_all [mz_isV]), rfl, rfl⟩
  · refine V.iload_n (j := 1) rfl dX8_isValue_4 ?_
    refine V.aload_n (j := 0) rfl dX8_isValue_5 ?_
    refine V.geti (v := I mM 0) dX8_isValue_6 fX8_79 rfl rfl rfl ?_
    refine V.icmp_ge (tgt := 16) dX8_isValue_9 (by decide) (fun c2 => ?_) (fun c2 => ?_)
    · refine V.iconst (v := nI 0) (by decide) dX8_isValue_16 ?_
      refine V.rz dX8_isValue_17 rfl (by decide) ?_
      exact ⟨by first | exact am_s1 (by simp_all [mz_isV]) | exact am_s0 (by simp_all [mz_isV]), rfl, rfl⟩
    · refine V.iconst (v := nI 1) (by decide) dX8_isValue_12 ?_
      refine V.goto (tgt := 17) dX8_isValue_13 (by decide) ?_
      refine V.rz dX8_isValue_17 rfl (by decide) ?_
      exact ⟨by first | exact am_s1 (by simp_all [mz_isV]) | exact am_s0 (by simp_all [mz_isV]), rfl, rfl⟩
set_option maxRecDepth 100000 in
set_option maxHeartbeats 4000000 in
theorem md_clear {G : am_G} (I A : Nat → Nat → Int32)  : Cm G MX8_clear 0 0 [.ref mM] I A (fun r I' A' => r = some (.int (I mM 2)) ∧ upI I mM 2 0 = I' ∧ A = A') := by
  refine Cm.of (by decide) (Nat.le_of_ble_eq_true rfl) rfl ?_
  show V G MX8_clear (am_R 0 0 0 0) _ 0 0 0 [(0, .ref mM)] [] (hp I A)
  refine V.aload_n (j := 0) rfl dX8_clear_0 ?_
  refine V.geti (v := I mM 2) dX8_clear_1 fX8_95 rfl rfl rfl ?_
  refine V.istore_n (ls' := [(0, .ref mM), (1, .int (I mM 2))]) dX8_clear_4 (by decide) rfl ?_
  refine V.aload_n (j := 0) rfl dX8_clear_5 ?_
  refine V.iconst (v := nI 0) (by decide) dX8_clear_6 ?_
  refine V.puti dX8_clear_7 pX8_95 rfl rfl ?_
  refine V.iload_n (j := 1) rfl dX8_clear_10 ?_
  refine V.ri dX8_clear_11 rfl ?_
  exact ⟨rfl, rfl, rfl⟩
set_option maxRecDepth 100000 in
set_option maxHeartbeats 4000000 in
theorem md_made {G : am_G} (I A : Nat → Nat → Int32) (v : Int32) : Cm G MX8_made 0 0 [.ref mM, .int v] I A (fun r I' A' => r = some (.int (if v = 0 then I mM 18 else if v = 1 then I mM 19 else -1)) ∧ I = I' ∧ A = A') := by
  refine Cm.of (by decide) (Nat.le_of_ble_eq_true rfl) rfl ?_
  show V G MX8_made (am_R 0 0 0 0) _ 0 0 0 [(0, .ref mM), (1, .int v)] [] (hp I A)
  refine V.iload_n (j := 1) rfl dX8_made_0 ?_
  refine V.if_ne (tgt := 11) dX8_made_1 (by decide) (fun c1 => ?_) (fun c1 => ?_)
  · refine V.iload_n (j := 1) rfl dX8_made_11 ?_
    refine V.iconst (v := nI 1) (by decide) dX8_made_12 ?_
    refine V.icmp_ne (tgt := 23) dX8_made_13 (by decide) (fun c2 => ?_) (fun c2 => ?_)
    · refine V.iconst (v := (-1)) (by decide) dX8_made_23 ?_
      refine V.ri dX8_made_24 rfl ?_
      exact ⟨by simp_all [nI_0, nIc_0, nIc_1, nIc_2, nIc_3, nIc_4, nIc_5, nIc_6, nIc_7, nIc_8, nIc_9, nIc_10, nIc_11, nIc_12], rfl, rfl⟩
    · refine V.aload_n (j := 0) rfl dX8_made_16 ?_
      refine V.geti (v := I mM 19) dX8_made_17 fX8_175 rfl rfl rfl ?_
      refine V.goto (tgt := 24) dX8_made_20 (by decide) ?_
      refine V.ri dX8_made_24 rfl ?_
      exact ⟨by simp_all [nI_0, nIc_0, nIc_1, nIc_2, nIc_3, nIc_4, nIc_5, nIc_6, nIc_7, nIc_8, nIc_9, nIc_10, nIc_11, nIc_12], rfl, rfl⟩
  · refine V.aload_n (j := 0) rfl dX8_made_4 ?_
    refine V.geti (v := I mM 18) dX8_made_5 fX8_172 rfl rfl rfl ?_
    refine V.goto (tgt := 24) dX8_made_8 (by decide) ?_
    refine V.ri dX8_made_24 rfl ?_
    exact ⟨by simp_all [nI_0, nIc_0, nIc_1, nIc_2, nIc_3, nIc_4, nIc_5, nIc_6, nIc_7, nIc_8, nIc_9, nIc_10, nIc_11, nIc_12], rfl, rfl⟩
set_option maxRecDepth 100000 in
set_option maxHeartbeats 4000000 in
theorem md_check {G : am_G} (I A : Nat → Nat → Int32)  : Cm G MX8_check 0 0 [.ref mM] I A (fun r I' A' => r = some (.int 1) ∧ I = I' ∧ A = A') := by
  refine Cm.of (by decide) (Nat.le_of_ble_eq_true rfl) rfl ?_
  show V G MX8_check (am_R 0 0 0 0) _ 0 0 0 [(0, .ref mM)] [] (hp I A)
  refine V.iconst (v := nI 1) (by decide) dX8_check_0 ?_
  refine V.ri dX8_check_1 rfl ?_
  exact ⟨rfl, rfl, rfl⟩
set_option maxRecDepth 100000 in
set_option maxHeartbeats 4000000 in
theorem md_register {G : am_G} (I A : Nat → Nat → Int32) (c v : Int32) : Cm G MX8_register 0 0 [.int c, .int v] I A (fun r I' A' => r = some (.int (16 * c + v)) ∧ I = I' ∧ A = A') := by
  refine Cm.of (by decide) (Nat.le_of_ble_eq_true rfl) rfl ?_
  show V G MX8_register (am_R 0 0 0 0) _ 0 0 0 [(0, .int c), (1, .int v)] [] (hp I A)
  refine V.bipush (v := nI 16) (by decide) dX8_register_0 ?_
  refine V.iload_n (j := 0) rfl dX8_register_2 ?_
  refine V.imul dX8_register_3 ?_
  refine V.iload_n (j := 1) rfl dX8_register_4 ?_
  refine V.iadd dX8_register_5 ?_
  refine V.ri dX8_register_6 rfl ?_
  exact ⟨rfl, rfl, rfl⟩
set_option maxRecDepth 100000 in
set_option maxHeartbeats 4000000 in
theorem md_reckoned {G : am_G} (I A : Nat → Nat → Int32) (o a b : Int32) : Cm G MX8_reckoned 0 0 [.int o, .int a, .int b] I A (fun r I' A' => r = some (.int (if o = 2 then a + b else if o = 3 then a - b else a * b)) ∧ I = I' ∧ A = A') := by
  refine Cm.of (by decide) (Nat.le_of_ble_eq_true rfl) rfl ?_
  show V G MX8_reckoned (am_R 0 0 0 0) _ 0 0 0 [(0, .int o), (1, .int a), (2, .int b)] [] (hp I A)
  refine V.iload_n (j := 0) rfl dX8_reckoned_0 ?_
  refine V.iconst (v := nI 2) (by decide) dX8_reckoned_1 ?_
  refine V.icmp_ne (tgt := 11) dX8_reckoned_2 (by decide) (fun c1 => ?_) (fun c1 => ?_)
  · refine V.iload_n (j := 0) rfl dX8_reckoned_11 ?_
    refine V.iconst (v := nI 3) (by decide) dX8_reckoned_12 ?_
    refine V.icmp_ne (tgt := 22) dX8_reckoned_13 (by decide) (fun c2 => ?_) (fun c2 => ?_)
    · refine V.iload_n (j := 1) rfl dX8_reckoned_22 ?_
      refine V.iload_n (j := 2) rfl dX8_reckoned_23 ?_
      refine V.imul dX8_reckoned_24 ?_
      refine V.ri dX8_reckoned_25 rfl ?_
      exact ⟨by simp_all [nI_0, nIc_0, nIc_1, nIc_2, nIc_3, nIc_4, nIc_5, nIc_6, nIc_7, nIc_8, nIc_9, nIc_10, nIc_11, nIc_12], rfl, rfl⟩
    · refine V.iload_n (j := 1) rfl dX8_reckoned_16 ?_
      refine V.iload_n (j := 2) rfl dX8_reckoned_17 ?_
      refine V.isub dX8_reckoned_18 ?_
      refine V.goto (tgt := 25) dX8_reckoned_19 (by decide) ?_
      refine V.ri dX8_reckoned_25 rfl ?_
      exact ⟨by simp_all [nI_0, nIc_0, nIc_1, nIc_2, nIc_3, nIc_4, nIc_5, nIc_6, nIc_7, nIc_8, nIc_9, nIc_10, nIc_11, nIc_12], rfl, rfl⟩
  · refine V.iload_n (j := 1) rfl dX8_reckoned_5 ?_
    refine V.iload_n (j := 2) rfl dX8_reckoned_6 ?_
    refine V.iadd dX8_reckoned_7 ?_
    refine V.goto (tgt := 25) dX8_reckoned_8 (by decide) ?_
    refine V.ri dX8_reckoned_25 rfl ?_
    exact ⟨by simp_all [nI_0, nIc_0, nIc_1, nIc_2, nIc_3, nIc_4, nIc_5, nIc_6, nIc_7, nIc_8, nIc_9, nIc_10, nIc_11, nIc_12], rfl, rfl⟩
/-- a place of a row of n that a number tells, and what is written there -/
def mz_put (n : Nat) (f : Nat → Int32) (k v : Int32) : Nat → Int32 := if ¬ k < 0 ∧ k < nI n then upd f k.toNatClampNeg v else f
theorem mz_put_in {n j : Nat} {f : Nat → Int32} {v : Int32} (hn : n < 2 ^ 31) (hj : j < n) : mz_put n f (nI j) v = upd f j v := by
  unfold mz_put
  rw [if_pos ⟨nI_pos (by omega), (nI_ltI (by omega) hn).mpr hj⟩, nI_clamp (by omega)]
set_option maxRecDepth 100000 in
set_option maxHeartbeats 4000000 in
theorem md_memory {G : am_G} (I A : Nat → Nat → Int32) (k v : Int32) : Cm G MX8_memory 0 0 [.ref mM, .int k, .int v] I A (fun r I' A' => r = some (.int (if ¬ k < 0 ∧ k < 64 then 1 else 0)) ∧ I = I' ∧ upA A m_memory (mz_put 64 (A m_memory) k v) = A') := by
  refine Cm.of (by decide) (Nat.le_of_ble_eq_true rfl) rfl ?_
  show V G MX8_memory (am_R 0 0 0 0) _ 0 0 0 [(0, .ref mM), (1, .int k), (2, .int v)] [] (hp I A)
  refine V.iload_n (j := 1) rfl dX8_memory_0 ?_
  refine V.if_lt (tgt := 10) dX8_memory_1 (by decide) (fun c1 => ?_) (fun c1 => ?_)
  · refine V.iconst (v := nI 0) (by decide) dX8_memory_10 ?_
    refine V.ri dX8_memory_11 rfl ?_
    have hz : ¬ (¬ k < 0 ∧ k < 64) := by simp_all [nIc_64]
    exact ⟨by rw [if_neg hz]; rfl, rfl, by unfold mz_put; rw [if_neg (by simpa [nIc_64] using hz), upA_i]⟩
  · refine V.iload_n (j := 1) rfl dX8_memory_4 ?_
    refine V.bipush (v := nI 64) (by decide) dX8_memory_5 ?_
    refine V.icmp_lt (tgt := 12) dX8_memory_7 (by decide) (fun c2 => ?_) (fun c2 => ?_)
    · obtain ⟨j, hj, rfl⟩ := mz_lt (nv := 64) (by decide) c1 c2
      refine V.aload_n (j := 0) rfl dX8_memory_12 ?_
      refine V.getr (q := m_memory) dX8_memory_13 fX8_28 rfl rfl ?_
      refine V.iload_n (j := 1) rfl dX8_memory_16 ?_
      refine V.iload_n (j := 2) rfl dX8_memory_17 ?_
      refine V.sta (g := upd (A m_memory) j (v)) dX8_memory_18 rfl (by omega) (by decide) (by simp [upA]) ?_
      refine V.iconst (v := nI 1) (by decide) dX8_memory_19 ?_
      refine V.ri dX8_memory_20 rfl ?_
      exact ⟨by rw [if_pos ⟨c1, c2⟩]; rfl, rfl, by rw [mz_put_in (by decide) hj]⟩
    · refine V.iconst (v := nI 0) (by decide) dX8_memory_10 ?_
      refine V.ri dX8_memory_11 rfl ?_
      have hz : ¬ (¬ k < 0 ∧ k < 64) := by simp_all [nIc_64]
      exact ⟨by rw [if_neg hz]; rfl, rfl, by unfold mz_put; rw [if_neg (by simpa [nIc_64] using hz), upA_i]⟩
end
section
/-- the value that becomes anew in a step -/
def mz_anew (op fa : Nat → Int32) (s : Nat) : Int32 := if nI 6 ≤ op s then -1 else fa s
/-- the i-th value that a step takes -/
def mz_tak0 (op fa fb : Nat → Int32) (s : Nat) : Int32 := if op s = nI 1 ∨ op s = nI 5 then fb s else if ¬ op s ≤ nI 1 ∧ ¬ nI 5 ≤ op s then fb s else if op s = nI 6 ∨ op s = nI 7 then fa s else if op s = nI 9 then fa s else -1
def mz_tak1 (op fb fc : Nat → Int32) (s : Nat) : Int32 := if op s = nI 1 ∨ op s = nI 5 then -1 else if ¬ op s ≤ nI 1 ∧ ¬ nI 5 ≤ op s then fc s else if op s = nI 6 ∨ op s = nI 7 then fb s else -1
def mz_bit (v : Int32) : Int32 := if v = -1 then nI 0 else nI 1 <<< (v &&& 31)
def mz_taking (op fa fb fc : Nat → Int32) (s : Nat) : Int32 := nI 0 ||| mz_bit (mz_tak0 op fa fb s) ||| mz_bit (mz_tak1 op fb fc s)
/-- what is live before step x, if there is one -/
def mz_at (ns : Nat) (bf : Nat → Int32) (x : Int32) : Int32 := if nI ns ≤ x then nI 0 else bf x.toNatClampNeg
set_option maxRecDepth 100000 in
set_option maxHeartbeats 4000000 in
theorem md_anew {G : am_G} (I A : Nat → Nat → Int32) (s : Nat) (hs : s < 60) : Cm G MX8_anew 0 0 [.ref mM, .int (nI s)] I A (fun r I' A' => r = some (.int (mz_anew (A m_ops) (A m_first) s)) ∧ I = I' ∧ A = A') := by
  refine Cm.of (by decide) (Nat.le_of_ble_eq_true rfl) rfl ?_
  show V G MX8_anew (am_R 0 0 0 0) _ 0 0 0 [(0, .ref mM), (1, .int (nI s))] [] (hp I A)
  refine V.aload_n (j := 0) rfl dX8_anew_0 ?_
  refine V.getr (q := m_ops) dX8_anew_1 fX8_13 rfl rfl ?_
  refine V.iload_n (j := 1) rfl dX8_anew_4 ?_
  refine V.lda (v := A m_ops s) dX8_anew_5 rfl (by omega) (by decide) rfl ?_
  refine V.bipush (v := nI 6) (by decide) dX8_anew_6 ?_
  refine V.icmp_ge (tgt := 20) dX8_anew_8 (by decide) (fun c1 => ?_) (fun c1 => ?_)
  · refine V.iconst (v := (-1)) (by decide) dX8_anew_20 ?_
    refine V.ri dX8_anew_21 rfl ?_
    exact ⟨by simp only [mz_anew]; (repeat' split) <;> first | rfl | contradiction | simp_all, rfl, rfl⟩
  · refine V.aload_n (j := 0) rfl dX8_anew_11 ?_
    refine V.getr (q := m_first) dX8_anew_12 fX8_16 rfl rfl ?_
    refine V.iload_n (j := 1) rfl dX8_anew_15 ?_
    refine V.lda (v := A m_first s) dX8_anew_16 rfl (by omega) (by decide) rfl ?_
    refine V.goto (tgt := 21) dX8_anew_17 (by decide) ?_
    refine V.ri dX8_anew_21 rfl ?_
    exact ⟨by simp only [mz_anew]; (repeat' split) <;> first | rfl | contradiction | simp_all, rfl, rfl⟩
set_option maxRecDepth 100000 in
set_option maxHeartbeats 4000000 in
theorem md_taken0 {G : am_G} (I A : Nat → Nat → Int32) (s : Nat) (hs : s < 60) : Cm G MX8_taken 0 0 [.ref mM, .int (nI s), .int (nI 0)] I A (fun r I' A' => r = some (.int (mz_tak0 (A m_ops) (A m_first) (A m_second) s)) ∧ I = I' ∧ A = A') := by
  refine Cm.of (by decide) (Nat.le_of_ble_eq_true rfl) rfl ?_
  show V G MX8_taken (am_R 0 0 0 0) _ 0 0 0 [(0, .ref mM), (1, .int (nI s)), (2, .int (nI 0))] [] (hp I A)
  refine V.aload_n (j := 0) rfl dX8_taken_0 ?_
  refine V.getr (q := m_ops) dX8_taken_1 fX8_13 rfl rfl ?_
  refine V.iload_n (j := 1) rfl dX8_taken_4 ?_
  refine V.lda (v := A m_ops s) dX8_taken_5 rfl (by omega) (by decide) rfl ?_
  refine V.istore_n (ls' := [(0, .ref mM), (1, .int (nI s)), (2, .int (nI 0)), (3, .int (A m_ops s))]) dX8_taken_6 (by decide) rfl ?_
  refine V.iload_n (j := 3) rfl dX8_taken_7 ?_
  refine V.iconst (v := nI 1) (by decide) dX8_taken_8 ?_
  refine V.icmp_eq (tgt := 17) dX8_taken_9 (by decide) (fun c1 => ?_) (fun c1 => ?_)
  · refine V.iload_n (j := 2) rfl dX8_taken_17 ?_
    refine V.if_ne (tgt := 30) dX8_taken_18 (by decide) (fun z => absurd z (by decide)) (fun _ => ?_)
    refine V.aload_n (j := 0) rfl dX8_taken_21 ?_
    refine V.getr (q := m_second) dX8_taken_22 fX8_19 rfl rfl ?_
    refine V.iload_n (j := 1) rfl dX8_taken_25 ?_
    refine V.lda (v := A m_second s) dX8_taken_26 rfl (by omega) (by decide) rfl ?_
    refine V.goto (tgt := 31) dX8_taken_27 (by decide) ?_
    refine V.ri dX8_taken_31 rfl ?_
    exact ⟨by simp only [mz_tak0]; (repeat' split) <;> first | rfl | contradiction | simp_all, rfl, rfl⟩
  · refine V.iload_n (j := 3) rfl dX8_taken_12 ?_
    refine V.iconst (v := nI 5) (by decide) dX8_taken_13 ?_
    refine V.icmp_ne (tgt := 32) dX8_taken_14 (by decide) (fun c3 => ?_) (fun c3 => ?_)
    · refine V.iload_n (j := 3) rfl dX8_taken_32 ?_
      refine V.iconst (v := nI 1) (by decide) dX8_taken_33 ?_
      refine V.icmp_le (tgt := 71) dX8_taken_34 (by decide) (fun c4 => ?_) (fun c4 => ?_)
      · refine V.iload_n (j := 3) rfl dX8_taken_71 ?_
        refine V.bipush (v := nI 6) (by decide) dX8_taken_72 ?_
        refine V.icmp_eq (tgt := 83) dX8_taken_74 (by decide) (fun c5 => ?_) (fun c5 => ?_)
        · refine V.iload_n (j := 2) rfl dX8_taken_83 ?_
          refine V.if_ne (tgt := 96) dX8_taken_84 (by decide) (fun z => absurd z (by decide)) (fun _ => ?_)
          refine V.aload_n (j := 0) rfl dX8_taken_87 ?_
          refine V.getr (q := m_first) dX8_taken_88 fX8_16 rfl rfl ?_
          refine V.iload_n (j := 1) rfl dX8_taken_91 ?_
          refine V.lda (v := A m_first s) dX8_taken_92 rfl (by omega) (by decide) rfl ?_
          refine V.goto (tgt := 111) dX8_taken_93 (by decide) ?_
          refine V.ri dX8_taken_111 rfl ?_
          exact ⟨by simp only [mz_tak0]; (repeat' split) <;> first | rfl | contradiction | simp_all, rfl, rfl⟩
        · refine V.iload_n (j := 3) rfl dX8_taken_77 ?_
          refine V.bipush (v := nI 7) (by decide) dX8_taken_78 ?_
          refine V.icmp_ne (tgt := 112) dX8_taken_80 (by decide) (fun c7 => ?_) (fun c7 => ?_)
          · refine V.iload_n (j := 3) rfl dX8_taken_112 ?_
            refine V.bipush (v := nI 9) (by decide) dX8_taken_113 ?_
            refine V.icmp_ne (tgt := 131) dX8_taken_115 (by decide) (fun c8 => ?_) (fun c8 => ?_)
            · refine V.iconst (v := (-1)) (by decide) dX8_taken_131 ?_
              refine V.ri dX8_taken_132 rfl ?_
              exact ⟨by simp only [mz_tak0]; (repeat' split) <;> first | rfl | contradiction | simp_all, rfl, rfl⟩
            · refine V.iload_n (j := 2) rfl dX8_taken_118 ?_
              refine V.if_ne (tgt := 131) dX8_taken_119 (by decide) (fun z => absurd z (by decide)) (fun _ => ?_)
              refine V.aload_n (j := 0) rfl dX8_taken_122 ?_
              refine V.getr (q := m_first) dX8_taken_123 fX8_16 rfl rfl ?_
              refine V.iload_n (j := 1) rfl dX8_taken_126 ?_
              refine V.lda (v := A m_first s) dX8_taken_127 rfl (by omega) (by decide) rfl ?_
              refine V.goto (tgt := 132) dX8_taken_128 (by decide) ?_
              refine V.ri dX8_taken_132 rfl ?_
              exact ⟨by simp only [mz_tak0]; (repeat' split) <;> first | rfl | contradiction | simp_all, rfl, rfl⟩
          · refine V.iload_n (j := 2) rfl dX8_taken_83 ?_
            refine V.if_ne (tgt := 96) dX8_taken_84 (by decide) (fun z => absurd z (by decide)) (fun _ => ?_)
            refine V.aload_n (j := 0) rfl dX8_taken_87 ?_
            refine V.getr (q := m_first) dX8_taken_88 fX8_16 rfl rfl ?_
            refine V.iload_n (j := 1) rfl dX8_taken_91 ?_
            refine V.lda (v := A m_first s) dX8_taken_92 rfl (by omega) (by decide) rfl ?_
            refine V.goto (tgt := 111) dX8_taken_93 (by decide) ?_
            refine V.ri dX8_taken_111 rfl ?_
            exact ⟨by simp only [mz_tak0]; (repeat' split) <;> first | rfl | contradiction | simp_all, rfl, rfl⟩
      · refine V.iload_n (j := 3) rfl dX8_taken_37 ?_
        refine V.iconst (v := nI 5) (by decide) dX8_taken_38 ?_
        refine V.icmp_ge (tgt := 71) dX8_taken_39 (by decide) (fun c11 => ?_) (fun c11 => ?_)
        · refine V.iload_n (j := 3) rfl dX8_taken_71 ?_
          refine V.bipush (v := nI 6) (by decide) dX8_taken_72 ?_
          refine V.icmp_eq (tgt := 83) dX8_taken_74 (by decide) (fun c12 => ?_) (fun c12 => ?_)
          · refine V.iload_n (j := 2) rfl dX8_taken_83 ?_
            refine V.if_ne (tgt := 96) dX8_taken_84 (by decide) (fun z => absurd z (by decide)) (fun _ => ?_)
            refine V.aload_n (j := 0) rfl dX8_taken_87 ?_
            refine V.getr (q := m_first) dX8_taken_88 fX8_16 rfl rfl ?_
            refine V.iload_n (j := 1) rfl dX8_taken_91 ?_
            refine V.lda (v := A m_first s) dX8_taken_92 rfl (by omega) (by decide) rfl ?_
            refine V.goto (tgt := 111) dX8_taken_93 (by decide) ?_
            refine V.ri dX8_taken_111 rfl ?_
            exact ⟨by simp only [mz_tak0]; (repeat' split) <;> first | rfl | contradiction | simp_all, rfl, rfl⟩
          · refine V.iload_n (j := 3) rfl dX8_taken_77 ?_
            refine V.bipush (v := nI 7) (by decide) dX8_taken_78 ?_
            refine V.icmp_ne (tgt := 112) dX8_taken_80 (by decide) (fun c14 => ?_) (fun c14 => ?_)
            · refine V.iload_n (j := 3) rfl dX8_taken_112 ?_
              refine V.bipush (v := nI 9) (by decide) dX8_taken_113 ?_
              refine V.icmp_ne (tgt := 131) dX8_taken_115 (by decide) (fun c15 => ?_) (fun c15 => ?_)
              · refine V.iconst (v := (-1)) (by decide) dX8_taken_131 ?_
                refine V.ri dX8_taken_132 rfl ?_
                exact ⟨by simp only [mz_tak0]; (repeat' split) <;> first | rfl | contradiction | simp_all, rfl, rfl⟩
              · refine V.iload_n (j := 2) rfl dX8_taken_118 ?_
                refine V.if_ne (tgt := 131) dX8_taken_119 (by decide) (fun z => absurd z (by decide)) (fun _ => ?_)
                refine V.aload_n (j := 0) rfl dX8_taken_122 ?_
                refine V.getr (q := m_first) dX8_taken_123 fX8_16 rfl rfl ?_
                refine V.iload_n (j := 1) rfl dX8_taken_126 ?_
                refine V.lda (v := A m_first s) dX8_taken_127 rfl (by omega) (by decide) rfl ?_
                refine V.goto (tgt := 132) dX8_taken_128 (by decide) ?_
                refine V.ri dX8_taken_132 rfl ?_
                exact ⟨by simp only [mz_tak0]; (repeat' split) <;> first | rfl | contradiction | simp_all, rfl, rfl⟩
            · refine V.iload_n (j := 2) rfl dX8_taken_83 ?_
              refine V.if_ne (tgt := 96) dX8_taken_84 (by decide) (fun z => absurd z (by decide)) (fun _ => ?_)
              refine V.aload_n (j := 0) rfl dX8_taken_87 ?_
              refine V.getr (q := m_first) dX8_taken_88 fX8_16 rfl rfl ?_
              refine V.iload_n (j := 1) rfl dX8_taken_91 ?_
              refine V.lda (v := A m_first s) dX8_taken_92 rfl (by omega) (by decide) rfl ?_
              refine V.goto (tgt := 111) dX8_taken_93 (by decide) ?_
              refine V.ri dX8_taken_111 rfl ?_
              exact ⟨by simp only [mz_tak0]; (repeat' split) <;> first | rfl | contradiction | simp_all, rfl, rfl⟩
        · refine V.iload_n (j := 2) rfl dX8_taken_42 ?_
          refine V.if_ne (tgt := 55) dX8_taken_43 (by decide) (fun z => absurd z (by decide)) (fun _ => ?_)
          refine V.aload_n (j := 0) rfl dX8_taken_46 ?_
          refine V.getr (q := m_second) dX8_taken_47 fX8_19 rfl rfl ?_
          refine V.iload_n (j := 1) rfl dX8_taken_50 ?_
          refine V.lda (v := A m_second s) dX8_taken_51 rfl (by omega) (by decide) rfl ?_
          refine V.goto (tgt := 70) dX8_taken_52 (by decide) ?_
          refine V.ri dX8_taken_70 rfl ?_
          exact ⟨by simp only [mz_tak0]; (repeat' split) <;> first | rfl | contradiction | simp_all, rfl, rfl⟩
    · refine V.iload_n (j := 2) rfl dX8_taken_17 ?_
      refine V.if_ne (tgt := 30) dX8_taken_18 (by decide) (fun z => absurd z (by decide)) (fun _ => ?_)
      refine V.aload_n (j := 0) rfl dX8_taken_21 ?_
      refine V.getr (q := m_second) dX8_taken_22 fX8_19 rfl rfl ?_
      refine V.iload_n (j := 1) rfl dX8_taken_25 ?_
      refine V.lda (v := A m_second s) dX8_taken_26 rfl (by omega) (by decide) rfl ?_
      refine V.goto (tgt := 31) dX8_taken_27 (by decide) ?_
      refine V.ri dX8_taken_31 rfl ?_
      exact ⟨by simp only [mz_tak0]; (repeat' split) <;> first | rfl | contradiction | simp_all, rfl, rfl⟩
set_option maxRecDepth 100000 in
set_option maxHeartbeats 4000000 in
theorem md_taken1 {G : am_G} (I A : Nat → Nat → Int32) (s : Nat) (hs : s < 60) : Cm G MX8_taken 0 0 [.ref mM, .int (nI s), .int (nI 1)] I A (fun r I' A' => r = some (.int (mz_tak1 (A m_ops) (A m_second) (A m_third) s)) ∧ I = I' ∧ A = A') := by
  refine Cm.of (by decide) (Nat.le_of_ble_eq_true rfl) rfl ?_
  show V G MX8_taken (am_R 0 0 0 0) _ 0 0 0 [(0, .ref mM), (1, .int (nI s)), (2, .int (nI 1))] [] (hp I A)
  refine V.aload_n (j := 0) rfl dX8_taken_0 ?_
  refine V.getr (q := m_ops) dX8_taken_1 fX8_13 rfl rfl ?_
  refine V.iload_n (j := 1) rfl dX8_taken_4 ?_
  refine V.lda (v := A m_ops s) dX8_taken_5 rfl (by omega) (by decide) rfl ?_
  refine V.istore_n (ls' := [(0, .ref mM), (1, .int (nI s)), (2, .int (nI 1)), (3, .int (A m_ops s))]) dX8_taken_6 (by decide) rfl ?_
  refine V.iload_n (j := 3) rfl dX8_taken_7 ?_
  refine V.iconst (v := nI 1) (by decide) dX8_taken_8 ?_
  refine V.icmp_eq (tgt := 17) dX8_taken_9 (by decide) (fun c1 => ?_) (fun c1 => ?_)
  · refine V.iload_n (j := 2) rfl dX8_taken_17 ?_
    refine V.if_ne (tgt := 30) dX8_taken_18 (by decide) (fun _ => ?_) (fun z => absurd z (by decide))
    refine V.iconst (v := (-1)) (by decide) dX8_taken_30 ?_
    refine V.ri dX8_taken_31 rfl ?_
    exact ⟨by simp only [mz_tak1]; (repeat' split) <;> first | rfl | contradiction | simp_all, rfl, rfl⟩
  · refine V.iload_n (j := 3) rfl dX8_taken_12 ?_
    refine V.iconst (v := nI 5) (by decide) dX8_taken_13 ?_
    refine V.icmp_ne (tgt := 32) dX8_taken_14 (by decide) (fun c3 => ?_) (fun c3 => ?_)
    · refine V.iload_n (j := 3) rfl dX8_taken_32 ?_
      refine V.iconst (v := nI 1) (by decide) dX8_taken_33 ?_
      refine V.icmp_le (tgt := 71) dX8_taken_34 (by decide) (fun c4 => ?_) (fun c4 => ?_)
      · refine V.iload_n (j := 3) rfl dX8_taken_71 ?_
        refine V.bipush (v := nI 6) (by decide) dX8_taken_72 ?_
        refine V.icmp_eq (tgt := 83) dX8_taken_74 (by decide) (fun c5 => ?_) (fun c5 => ?_)
        · refine V.iload_n (j := 2) rfl dX8_taken_83 ?_
          refine V.if_ne (tgt := 96) dX8_taken_84 (by decide) (fun _ => ?_) (fun z => absurd z (by decide))
          refine V.iload_n (j := 2) rfl dX8_taken_96 ?_
          refine V.iconst (v := nI 1) (by decide) dX8_taken_97 ?_
          refine V.icmp_ne (tgt := 110) dX8_taken_98 (by decide) (fun z => absurd z (by decide)) (fun _ => ?_)
          refine V.aload_n (j := 0) rfl dX8_taken_101 ?_
          refine V.getr (q := m_second) dX8_taken_102 fX8_19 rfl rfl ?_
          refine V.iload_n (j := 1) rfl dX8_taken_105 ?_
          refine V.lda (v := A m_second s) dX8_taken_106 rfl (by omega) (by decide) rfl ?_
          refine V.goto (tgt := 111) dX8_taken_107 (by decide) ?_
          refine V.ri dX8_taken_111 rfl ?_
          exact ⟨by simp only [mz_tak1]; (repeat' split) <;> first | rfl | contradiction | simp_all, rfl, rfl⟩
        · refine V.iload_n (j := 3) rfl dX8_taken_77 ?_
          refine V.bipush (v := nI 7) (by decide) dX8_taken_78 ?_
          refine V.icmp_ne (tgt := 112) dX8_taken_80 (by decide) (fun c8 => ?_) (fun c8 => ?_)
          · refine V.iload_n (j := 3) rfl dX8_taken_112 ?_
            refine V.bipush (v := nI 9) (by decide) dX8_taken_113 ?_
            refine V.icmp_ne (tgt := 131) dX8_taken_115 (by decide) (fun c9 => ?_) (fun c9 => ?_)
            · refine V.iconst (v := (-1)) (by decide) dX8_taken_131 ?_
              refine V.ri dX8_taken_132 rfl ?_
              exact ⟨by simp only [mz_tak1]; (repeat' split) <;> first | rfl | contradiction | simp_all, rfl, rfl⟩
            · refine V.iload_n (j := 2) rfl dX8_taken_118 ?_
              refine V.if_ne (tgt := 131) dX8_taken_119 (by decide) (fun _ => ?_) (fun z => absurd z (by decide))
              refine V.iconst (v := (-1)) (by decide) dX8_taken_131 ?_
              refine V.ri dX8_taken_132 rfl ?_
              exact ⟨by simp only [mz_tak1]; (repeat' split) <;> first | rfl | contradiction | simp_all, rfl, rfl⟩
          · refine V.iload_n (j := 2) rfl dX8_taken_83 ?_
            refine V.if_ne (tgt := 96) dX8_taken_84 (by decide) (fun _ => ?_) (fun z => absurd z (by decide))
            refine V.iload_n (j := 2) rfl dX8_taken_96 ?_
            refine V.iconst (v := nI 1) (by decide) dX8_taken_97 ?_
            refine V.icmp_ne (tgt := 110) dX8_taken_98 (by decide) (fun z => absurd z (by decide)) (fun _ => ?_)
            refine V.aload_n (j := 0) rfl dX8_taken_101 ?_
            refine V.getr (q := m_second) dX8_taken_102 fX8_19 rfl rfl ?_
            refine V.iload_n (j := 1) rfl dX8_taken_105 ?_
            refine V.lda (v := A m_second s) dX8_taken_106 rfl (by omega) (by decide) rfl ?_
            refine V.goto (tgt := 111) dX8_taken_107 (by decide) ?_
            refine V.ri dX8_taken_111 rfl ?_
            exact ⟨by simp only [mz_tak1]; (repeat' split) <;> first | rfl | contradiction | simp_all, rfl, rfl⟩
      · refine V.iload_n (j := 3) rfl dX8_taken_37 ?_
        refine V.iconst (v := nI 5) (by decide) dX8_taken_38 ?_
        refine V.icmp_ge (tgt := 71) dX8_taken_39 (by decide) (fun c13 => ?_) (fun c13 => ?_)
        · refine V.iload_n (j := 3) rfl dX8_taken_71 ?_
          refine V.bipush (v := nI 6) (by decide) dX8_taken_72 ?_
          refine V.icmp_eq (tgt := 83) dX8_taken_74 (by decide) (fun c14 => ?_) (fun c14 => ?_)
          · refine V.iload_n (j := 2) rfl dX8_taken_83 ?_
            refine V.if_ne (tgt := 96) dX8_taken_84 (by decide) (fun _ => ?_) (fun z => absurd z (by decide))
            refine V.iload_n (j := 2) rfl dX8_taken_96 ?_
            refine V.iconst (v := nI 1) (by decide) dX8_taken_97 ?_
            refine V.icmp_ne (tgt := 110) dX8_taken_98 (by decide) (fun z => absurd z (by decide)) (fun _ => ?_)
            refine V.aload_n (j := 0) rfl dX8_taken_101 ?_
            refine V.getr (q := m_second) dX8_taken_102 fX8_19 rfl rfl ?_
            refine V.iload_n (j := 1) rfl dX8_taken_105 ?_
            refine V.lda (v := A m_second s) dX8_taken_106 rfl (by omega) (by decide) rfl ?_
            refine V.goto (tgt := 111) dX8_taken_107 (by decide) ?_
            refine V.ri dX8_taken_111 rfl ?_
            exact ⟨by simp only [mz_tak1]; (repeat' split) <;> first | rfl | contradiction | simp_all, rfl, rfl⟩
          · refine V.iload_n (j := 3) rfl dX8_taken_77 ?_
            refine V.bipush (v := nI 7) (by decide) dX8_taken_78 ?_
            refine V.icmp_ne (tgt := 112) dX8_taken_80 (by decide) (fun c17 => ?_) (fun c17 => ?_)
            · refine V.iload_n (j := 3) rfl dX8_taken_112 ?_
              refine V.bipush (v := nI 9) (by decide) dX8_taken_113 ?_
              refine V.icmp_ne (tgt := 131) dX8_taken_115 (by decide) (fun c18 => ?_) (fun c18 => ?_)
              · refine V.iconst (v := (-1)) (by decide) dX8_taken_131 ?_
                refine V.ri dX8_taken_132 rfl ?_
                exact ⟨by simp only [mz_tak1]; (repeat' split) <;> first | rfl | contradiction | simp_all, rfl, rfl⟩
              · refine V.iload_n (j := 2) rfl dX8_taken_118 ?_
                refine V.if_ne (tgt := 131) dX8_taken_119 (by decide) (fun _ => ?_) (fun z => absurd z (by decide))
                refine V.iconst (v := (-1)) (by decide) dX8_taken_131 ?_
                refine V.ri dX8_taken_132 rfl ?_
                exact ⟨by simp only [mz_tak1]; (repeat' split) <;> first | rfl | contradiction | simp_all, rfl, rfl⟩
            · refine V.iload_n (j := 2) rfl dX8_taken_83 ?_
              refine V.if_ne (tgt := 96) dX8_taken_84 (by decide) (fun _ => ?_) (fun z => absurd z (by decide))
              refine V.iload_n (j := 2) rfl dX8_taken_96 ?_
              refine V.iconst (v := nI 1) (by decide) dX8_taken_97 ?_
              refine V.icmp_ne (tgt := 110) dX8_taken_98 (by decide) (fun z => absurd z (by decide)) (fun _ => ?_)
              refine V.aload_n (j := 0) rfl dX8_taken_101 ?_
              refine V.getr (q := m_second) dX8_taken_102 fX8_19 rfl rfl ?_
              refine V.iload_n (j := 1) rfl dX8_taken_105 ?_
              refine V.lda (v := A m_second s) dX8_taken_106 rfl (by omega) (by decide) rfl ?_
              refine V.goto (tgt := 111) dX8_taken_107 (by decide) ?_
              refine V.ri dX8_taken_111 rfl ?_
              exact ⟨by simp only [mz_tak1]; (repeat' split) <;> first | rfl | contradiction | simp_all, rfl, rfl⟩
        · refine V.iload_n (j := 2) rfl dX8_taken_42 ?_
          refine V.if_ne (tgt := 55) dX8_taken_43 (by decide) (fun _ => ?_) (fun z => absurd z (by decide))
          refine V.iload_n (j := 2) rfl dX8_taken_55 ?_
          refine V.iconst (v := nI 1) (by decide) dX8_taken_56 ?_
          refine V.icmp_ne (tgt := 69) dX8_taken_57 (by decide) (fun z => absurd z (by decide)) (fun _ => ?_)
          refine V.aload_n (j := 0) rfl dX8_taken_60 ?_
          refine V.getr (q := m_third) dX8_taken_61 fX8_22 rfl rfl ?_
          refine V.iload_n (j := 1) rfl dX8_taken_64 ?_
          refine V.lda (v := A m_third s) dX8_taken_65 rfl (by omega) (by decide) rfl ?_
          refine V.goto (tgt := 70) dX8_taken_66 (by decide) ?_
          refine V.ri dX8_taken_70 rfl ?_
          exact ⟨by simp only [mz_tak1]; (repeat' split) <;> first | rfl | contradiction | simp_all, rfl, rfl⟩
    · refine V.iload_n (j := 2) rfl dX8_taken_17 ?_
      refine V.if_ne (tgt := 30) dX8_taken_18 (by decide) (fun _ => ?_) (fun z => absurd z (by decide))
      refine V.iconst (v := (-1)) (by decide) dX8_taken_30 ?_
      refine V.ri dX8_taken_31 rfl ?_
      exact ⟨by simp only [mz_tak1]; (repeat' split) <;> first | rfl | contradiction | simp_all, rfl, rfl⟩
set_option maxRecDepth 100000 in
set_option maxHeartbeats 4000000 in
theorem md_liveAt {G : am_G} (I A : Nat → Nat → Int32) (ns : Nat) (hn : I mM 2 = nI ns) (hns : ns ≤ 60) (x : Int32) (hx : ¬ x < 0) : Cm G MX8_liveAt 0 0 [.ref mM, .int x] I A (fun r I' A' => r = some (.int (mz_at ns (A m_before) x)) ∧ I = I' ∧ A = A') := by
  refine Cm.of (by decide) (Nat.le_of_ble_eq_true rfl) rfl ?_
  show V G MX8_liveAt (am_R 0 0 0 0) _ 0 0 0 [(0, .ref mM), (1, .int x)] [] (hp I A)
  refine V.iload_n (j := 1) rfl dX8_liveAt_0 ?_
  refine V.aload_n (j := 0) rfl dX8_liveAt_1 ?_
  refine V.geti (v := nI ns) dX8_liveAt_2 fX8_95 rfl rfl hn ?_
  refine V.icmp_ge (tgt := 17) dX8_liveAt_5 (by decide) (fun c1 => ?_) (fun c1 => ?_)
  · refine V.iconst (v := nI 0) (by decide) dX8_liveAt_17 ?_
    refine V.ri dX8_liveAt_18 rfl ?_
    exact ⟨by (first | rw [mz_at, if_pos c1] | rw [mz_at, if_neg c1, nI_clamp (by omega)]), rfl, rfl⟩
  · obtain ⟨j, hj, rfl⟩ := mz_nat (nv := ns) (by omega) ⟨hx, c1⟩
    refine V.aload_n (j := 0) rfl dX8_liveAt_8 ?_
    refine V.getr (q := m_before) dX8_liveAt_9 fX8_31 rfl rfl ?_
    refine V.iload_n (j := 1) rfl dX8_liveAt_12 ?_
    refine V.lda (v := A m_before j) dX8_liveAt_13 rfl (by omega) (by decide) rfl ?_
    refine V.goto (tgt := 18) dX8_liveAt_14 (by decide) ?_
    refine V.ri dX8_liveAt_18 rfl ?_
    exact ⟨by (first | rw [mz_at, if_pos c1] | rw [mz_at, if_neg c1, nI_clamp (by omega)]), rfl, rfl⟩
set_option maxRecDepth 100000 in
set_option maxHeartbeats 4000000 in
theorem md_taking {G : am_G} (I A : Nat → Nat → Int32) (s : Nat) (hs : s < 60) : Cm G MX8_taking 1 23 [.ref mM, .int (nI s)] I A (fun r I' A' => r = some (.int (mz_taking (A m_ops) (A m_first) (A m_second) (A m_third) s)) ∧ I = I' ∧ A = A') := by
  refine Cm.of (by decide) (Nat.le_of_ble_eq_true rfl) rfl ?_
  show V G MX8_taking (am_R 1 23 0 0) _ 0 0 0 [(0, .ref mM), (1, .int (nI s))] [] (hp I A)
  refine V.iconst (v := nI 0) (by decide) dX8_taking_0 ?_
  refine V.istore_n (ls' := [(0, .ref mM), (1, .int (nI s)), (2, .int (nI 0))]) dX8_taking_1 (by decide) rfl ?_
  refine V.iconst (v := nI 0) (by decide) dX8_taking_2 ?_
  refine V.istore_n (ls' := [(0, .ref mM), (1, .int (nI s)), (2, .int (nI 0)), (3, .int (nI 0))]) dX8_taking_3 (by decide) rfl ?_
  refine V.iload_n (j := 3) rfl dX8_taking_4 ?_
  refine V.iconst (v := nI 2) (by decide) dX8_taking_5 ?_
  refine V.icmp_ge (tgt := 40) dX8_taking_6 (by decide) (fun z => absurd z (by decide)) (fun _ => ?_)
  refine V.aload_n (j := 0) rfl dX8_taking_9 ?_
  refine V.iload_n (j := 1) rfl dX8_taking_10 ?_
  refine V.iload_n (j := 3) rfl dX8_taking_11 ?_
  refine V.cV (As := [.int (nI s), .int (nI 0)]) (st := []) dX8_taking_12 sX8_98 iX8_taken lX8_taken rfl rfl (md_taken0 _ _ s hs) ⟨by decide, by decide⟩ (Nat.le_of_ble_eq_true rfl) rfl (fun r I' A' hq => ?_)
  obtain ⟨rfl, rfl, rfl⟩ := hq
  refine V.st (st' := [.int (mz_tak0 (A m_ops) (A m_first) (A m_second) s)]) rfl ?_
  refine V.istore (ls' := [(0, .ref mM), (1, .int (nI s)), (2, .int (nI 0)), (3, .int (nI 0)), (4, .int (mz_tak0 (A m_ops) (A m_first) (A m_second) s))]) dX8_taking_15 (by decide) rfl ?_
  refine V.iload_n (j := 2) rfl dX8_taking_17 ?_
  refine V.iload (j := 4) rfl dX8_taking_18 ?_
  refine V.iconst (v := (-1)) (by decide) dX8_taking_20 ?_
  have K2 : V G MX8_taking (am_R 1 23 0 0) (am_Fin G 0 0 (Pm (fun r I' A' => r = some (.int (mz_taking (A m_ops) (A m_first) (A m_second) (A m_third) s)) ∧ I = I' ∧ A = A'))) 0 0 32 [(0, .ref mM), (1, .int (nI s)), (2, .int (nI 0)), (3, .int (nI 0)), (4, .int (mz_tak0 (A m_ops) (A m_first) (A m_second) s))] [.int (mz_bit (mz_tak0 (A m_ops) (A m_first) (A m_second) s)), .int (nI 0)] (hp I A) := by
    refine V.ior dX8_taking_32 ?_
    refine V.istore_n (ls' := [(0, .ref mM), (1, .int (nI s)), (2, .int ((nI 0) ||| (mz_bit (mz_tak0 (A m_ops) (A m_first) (A m_second) s)))), (3, .int (nI 0)), (4, .int (mz_tak0 (A m_ops) (A m_first) (A m_second) s))]) dX8_taking_33 (by decide) rfl ?_
    refine V.iincN (ls' := [(0, .ref mM), (1, .int (nI s)), (2, .int ((nI 0) ||| (mz_bit (mz_tak0 (A m_ops) (A m_first) (A m_second) s)))), (3, .int (nI 1)), (4, .int (mz_tak0 (A m_ops) (A m_first) (A m_second) s))]) dX8_taking_34 (j := 3) rfl (by decide) rfl ?_
    refine V.goto (tgt := 4) dX8_taking_37 (by decide) ?_
    refine V.iload_n (j := 3) rfl dX8_taking_4 ?_
    refine V.iconst (v := nI 2) (by decide) dX8_taking_5 ?_
    refine V.icmp_ge (tgt := 40) dX8_taking_6 (by decide) (fun z => absurd z (by decide)) (fun _ => ?_)
    refine V.aload_n (j := 0) rfl dX8_taking_9 ?_
    refine V.iload_n (j := 1) rfl dX8_taking_10 ?_
    refine V.iload_n (j := 3) rfl dX8_taking_11 ?_
    refine V.cV (As := [.int (nI s), .int (nI 1)]) (st := []) dX8_taking_12 sX8_98 iX8_taken lX8_taken rfl rfl (md_taken1 _ _ s hs) ⟨by decide, by decide⟩ (Nat.le_of_ble_eq_true rfl) rfl (fun r I' A' hq => ?_)
    obtain ⟨rfl, rfl, rfl⟩ := hq
    refine V.st (st' := [.int (mz_tak1 (A m_ops) (A m_second) (A m_third) s)]) rfl ?_
    refine V.istore (ls' := [(0, .ref mM), (1, .int (nI s)), (2, .int ((nI 0) ||| (mz_bit (mz_tak0 (A m_ops) (A m_first) (A m_second) s)))), (3, .int (nI 1)), (4, .int (mz_tak1 (A m_ops) (A m_second) (A m_third) s))]) dX8_taking_15 (by decide) rfl ?_
    refine V.iload_n (j := 2) rfl dX8_taking_17 ?_
    refine V.iload (j := 4) rfl dX8_taking_18 ?_
    refine V.iconst (v := (-1)) (by decide) dX8_taking_20 ?_
    have K4 : V G MX8_taking (am_R 1 23 0 0) (am_Fin G 0 0 (Pm (fun r I' A' => r = some (.int (mz_taking (A m_ops) (A m_first) (A m_second) (A m_third) s)) ∧ I = I' ∧ A = A'))) 0 0 32 [(0, .ref mM), (1, .int (nI s)), (2, .int ((nI 0) ||| (mz_bit (mz_tak0 (A m_ops) (A m_first) (A m_second) s)))), (3, .int (nI 1)), (4, .int (mz_tak1 (A m_ops) (A m_second) (A m_third) s))] [.int (mz_bit (mz_tak1 (A m_ops) (A m_second) (A m_third) s)), .int ((nI 0) ||| (mz_bit (mz_tak0 (A m_ops) (A m_first) (A m_second) s)))] (hp I A) := by
      refine V.ior dX8_taking_32 ?_
      refine V.istore_n (ls' := [(0, .ref mM), (1, .int (nI s)), (2, .int (((nI 0) ||| (mz_bit (mz_tak0 (A m_ops) (A m_first) (A m_second) s))) ||| (mz_bit (mz_tak1 (A m_ops) (A m_second) (A m_third) s)))), (3, .int (nI 1)), (4, .int (mz_tak1 (A m_ops) (A m_second) (A m_third) s))]) dX8_taking_33 (by decide) rfl ?_
      refine V.iincN (ls' := [(0, .ref mM), (1, .int (nI s)), (2, .int (((nI 0) ||| (mz_bit (mz_tak0 (A m_ops) (A m_first) (A m_second) s))) ||| (mz_bit (mz_tak1 (A m_ops) (A m_second) (A m_third) s)))), (3, .int (nI 2)), (4, .int (mz_tak1 (A m_ops) (A m_second) (A m_third) s))]) dX8_taking_34 (j := 3) rfl (by decide) rfl ?_
      refine V.goto (tgt := 4) dX8_taking_37 (by decide) ?_
      refine V.iload_n (j := 3) rfl dX8_taking_4 ?_
      refine V.iconst (v := nI 2) (by decide) dX8_taking_5 ?_
      refine V.icmp_ge (tgt := 40) dX8_taking_6 (by decide) (fun _ => ?_) (fun z => absurd z (by decide))
      refine V.iload_n (j := 2) rfl dX8_taking_40 ?_
      refine V.ri dX8_taking_41 rfl ?_
      exact ⟨rfl, rfl, rfl⟩
    refine V.icmp_ne (tgt := 28) dX8_taking_21 (by decide) (fun c6 => ?_) (fun c6 => ?_)
    · refine V.iconst (v := nI 1) (by decide) dX8_taking_28 ?_
      refine V.iload (j := 4) rfl dX8_taking_29 ?_
      refine V.ishl dX8_taking_31 ?_
      exact V.st (by simp_all [mz_bit]) K4
    · refine V.iconst (v := nI 0) (by decide) dX8_taking_24 ?_
      refine V.goto (tgt := 32) dX8_taking_25 (by decide) ?_
      exact V.st (by simp_all [mz_bit]) K4
  refine V.icmp_ne (tgt := 28) dX8_taking_21 (by decide) (fun c7 => ?_) (fun c7 => ?_)
  · refine V.iconst (v := nI 1) (by decide) dX8_taking_28 ?_
    refine V.iload (j := 4) rfl dX8_taking_29 ?_
    refine V.ishl dX8_taking_31 ?_
    exact V.st (by simp_all [mz_bit]) K2
  · refine V.iconst (v := nI 0) (by decide) dX8_taking_24 ?_
    refine V.goto (tgt := 32) dX8_taking_25 (by decide) ?_
    exact V.st (by simp_all [mz_bit]) K2
end
section
set_option maxRecDepth 100000 in
set_option maxHeartbeats 4000000 in
theorem md_isV {G : am_G} (I A : Nat → Nat → Int32) (nv : Nat) (hn : I mM 0 = nI nv) (v : Int32) : Cm G MX8_isValue 0 0 [.ref mM, .int v] I A (fun r I' A' => r = some (.int (bI (mz_isV (nI nv) v))) ∧ I = I' ∧ A = A') := by
  refine Cm.of (by decide) (Nat.le_of_ble_eq_true rfl) rfl ?_
  show V G MX8_isValue (am_R 0 0 0 0) _ 0 0 0 [(0, .ref mM), (1, .int v)] [] (hp I A)
  refine V.iload_n (j := 1) rfl dX8_isValue_0 ?_
  refine V.if_lt (tgt := 16) dX8_isValue_1 (by decide) (fun c1 => ?_) (fun c1 => ?_)
  · refine V.iconst (v := nI 0) (by decide) dX8_isValue_16 ?_
    refine V.rz dX8_isValue_17 rfl (by decide) ?_
    exact ⟨by first | exact am_s1 (by simp_all [mz_isV]) | exact am_s0 (by simp_all [mz_isV]), rfl, rfl⟩
  · refine V.iload_n (j := 1) rfl dX8_isValue_4 ?_
    refine V.aload_n (j := 0) rfl dX8_isValue_5 ?_
    refine V.geti (v := nI nv) dX8_isValue_6 fX8_79 rfl rfl hn ?_
    refine V.icmp_ge (tgt := 16) dX8_isValue_9 (by decide) (fun c2 => ?_) (fun c2 => ?_)
    · refine V.iconst (v := nI 0) (by decide) dX8_isValue_16 ?_
      refine V.rz dX8_isValue_17 rfl (by decide) ?_
      exact ⟨by first | exact am_s1 (by simp_all [mz_isV]) | exact am_s0 (by simp_all [mz_isV]), rfl, rfl⟩
    · refine V.iconst (v := nI 1) (by decide) dX8_isValue_12 ?_
      refine V.goto (tgt := 17) dX8_isValue_13 (by decide) ?_
      refine V.rz dX8_isValue_17 rfl (by decide) ?_
      exact ⟨by first | exact am_s1 (by simp_all [mz_isV]) | exact am_s0 (by simp_all [mz_isV]), rfl, rfl⟩
def mz_vOK (nv : Nat) (c : Int32) : Prop := ¬ c < 0 ∧ ¬ nI 1 < c ∧ ¬ nv = 24
set_option maxRecDepth 100000 in
set_option maxHeartbeats 4000000 in
theorem md_value {G : am_G} (I A : Nat → Nat → Int32) (nv : Nat) (hn : I mM 0 = nI nv) (hv : nv ≤ 24) (c : Int32) : Cm G MX8_value 0 0 [.ref mM, .int c] I A (fun r I' A' => (mz_vOK nv c → r = some (.int (nI nv)) ∧ upI I mM 0 (nI (nv + 1)) = I' ∧ upA A m_classes (upd (A m_classes) nv c) = A') ∧ (¬ mz_vOK nv c → r = some (.int (-1)) ∧ I = I' ∧ A = A')) := by
  refine Cm.of (by decide) (Nat.le_of_ble_eq_true rfl) rfl ?_
  show V G MX8_value (am_R 0 0 0 0) _ 0 0 0 [(0, .ref mM), (1, .int c)] [] (hp I A)
  refine V.iload_n (j := 1) rfl dX8_value_0 ?_
  refine V.if_lt (tgt := 18) dX8_value_1 (by decide) (fun c1 => ?_) (fun c1 => ?_)
  · refine V.iconst (v := (-1)) (by decide) dX8_value_18 ?_
    refine V.ri dX8_value_19 rfl ?_
    exact ⟨fun z => by obtain ⟨z1, z2, z3⟩ := z; contradiction, fun _ => ⟨rfl, rfl, rfl⟩⟩
  · refine V.iload_n (j := 1) rfl dX8_value_4 ?_
    refine V.iconst (v := nI 1) (by decide) dX8_value_5 ?_
    refine V.icmp_gt (tgt := 18) dX8_value_6 (by decide) (fun c2 => ?_) (fun c2 => ?_)
    · refine V.iconst (v := (-1)) (by decide) dX8_value_18 ?_
      refine V.ri dX8_value_19 rfl ?_
      exact ⟨fun z => by obtain ⟨z1, z2, z3⟩ := z; contradiction, fun _ => ⟨rfl, rfl, rfl⟩⟩
    · refine V.aload_n (j := 0) rfl dX8_value_9 ?_
      refine V.geti (v := nI nv) dX8_value_10 fX8_79 rfl rfl hn ?_
      refine V.bipush (v := nI 24) (by decide) dX8_value_13 ?_
      refine V.icmp_neN (tgt := 20) dX8_value_15 (by decide) (by omega) (by omega) (fun c3 => ?_) (fun c3 => ?_)
      · refine V.aload_n (j := 0) rfl dX8_value_20 ?_
        refine V.getr (q := m_classes) dX8_value_21 fX8_7 rfl rfl ?_
        refine V.aload_n (j := 0) rfl dX8_value_24 ?_
        refine V.geti (v := nI nv) dX8_value_25 fX8_79 rfl rfl hn ?_
        refine V.iload_n (j := 1) rfl dX8_value_28 ?_
        refine V.sta (g := upd (A m_classes) nv (c)) dX8_value_29 rfl (by omega) (by decide) rfl ?_
        refine V.aload_n (j := 0) rfl dX8_value_30 ?_
        refine V.dup rfl dX8_value_31 ?_
        refine V.geti (v := nI nv) dX8_value_32 fX8_79 rfl rfl hn ?_
        refine V.iconst (v := nI 1) (by decide) dX8_value_35 ?_
        refine V.iaddN dX8_value_36 ?_
        refine V.puti dX8_value_37 pX8_79 rfl rfl ?_
        refine V.aload_n (j := 0) rfl dX8_value_40 ?_
        refine V.geti (v := nI (nv + 1)) dX8_value_41 fX8_79 rfl rfl upI_s ?_
        refine V.iconst (v := nI 1) (by decide) dX8_value_44 ?_
        refine V.isubN dX8_value_45 (by omega) ?_
        refine V.ri dX8_value_46 rfl ?_
        exact ⟨fun _ => ⟨by simp, rfl, rfl⟩, fun z => absurd ⟨c1, c2, c3⟩ z⟩
      · refine V.iconst (v := (-1)) (by decide) dX8_value_18 ?_
        refine V.ri dX8_value_19 rfl ?_
        exact ⟨fun z => by obtain ⟨z1, z2, z3⟩ := z; contradiction, fun _ => ⟨rfl, rfl, rfl⟩⟩
def mz_rOK (c m : Int32) : Prop := ¬ c < 0 ∧ ¬ nI 1 < c ∧ ¬ m < 0 ∧ m ≤ nI 8
set_option maxRecDepth 100000 in
set_option maxHeartbeats 4000000 in
theorem md_registers {G : am_G} (I A : Nat → Nat → Int32) (c m : Int32) : Cm G MX8_registers 0 0 [.ref mM, .int c, .int m] I A (fun r I' A' => (mz_rOK c m → r = some (.int 1) ∧ I = I' ∧ upA A m_registers (upd (A m_registers) c.toNatClampNeg m) = A') ∧ (¬ mz_rOK c m → r = some (.int 0) ∧ I = I' ∧ A = A')) := by
  refine Cm.of (by decide) (Nat.le_of_ble_eq_true rfl) rfl ?_
  show V G MX8_registers (am_R 0 0 0 0) _ 0 0 0 [(0, .ref mM), (1, .int c), (2, .int m)] [] (hp I A)
  refine V.iload_n (j := 1) rfl dX8_registers_0 ?_
  refine V.if_lt (tgt := 19) dX8_registers_1 (by decide) (fun c1 => ?_) (fun c1 => ?_)
  · refine V.iconst (v := nI 0) (by decide) dX8_registers_19 ?_
    refine V.ri dX8_registers_20 rfl ?_
    exact ⟨fun z => by obtain ⟨z1, z2, z3, z4⟩ := z; contradiction, fun _ => ⟨rfl, rfl, rfl⟩⟩
  · refine V.iload_n (j := 1) rfl dX8_registers_4 ?_
    refine V.iconst (v := nI 1) (by decide) dX8_registers_5 ?_
    refine V.icmp_gt (tgt := 19) dX8_registers_6 (by decide) (fun c2 => ?_) (fun c2 => ?_)
    · refine V.iconst (v := nI 0) (by decide) dX8_registers_19 ?_
      refine V.ri dX8_registers_20 rfl ?_
      exact ⟨fun z => by obtain ⟨z1, z2, z3, z4⟩ := z; contradiction, fun _ => ⟨rfl, rfl, rfl⟩⟩
    · refine V.iload_n (j := 2) rfl dX8_registers_9 ?_
      refine V.if_lt (tgt := 19) dX8_registers_10 (by decide) (fun c3 => ?_) (fun c3 => ?_)
      · refine V.iconst (v := nI 0) (by decide) dX8_registers_19 ?_
        refine V.ri dX8_registers_20 rfl ?_
        exact ⟨fun z => by obtain ⟨z1, z2, z3, z4⟩ := z; contradiction, fun _ => ⟨rfl, rfl, rfl⟩⟩
      · refine V.iload_n (j := 2) rfl dX8_registers_13 ?_
        refine V.bipush (v := nI 8) (by decide) dX8_registers_14 ?_
        refine V.icmp_le (tgt := 21) dX8_registers_16 (by decide) (fun c4 => ?_) (fun c4 => ?_)
        · obtain ⟨j, hj, rfl⟩ := mz_ngt (nv := 1) (by decide) c1 c2
          refine V.aload_n (j := 0) rfl dX8_registers_21 ?_
          refine V.getr (q := m_registers) dX8_registers_22 fX8_25 rfl rfl ?_
          refine V.iload_n (j := 1) rfl dX8_registers_25 ?_
          refine V.iload_n (j := 2) rfl dX8_registers_26 ?_
          refine V.sta (g := upd (A m_registers) j (m)) dX8_registers_27 rfl (by omega) (by decide) rfl ?_
          refine V.iconst (v := nI 1) (by decide) dX8_registers_28 ?_
          refine V.ri dX8_registers_29 rfl ?_
          exact ⟨fun _ => ⟨rfl, rfl, by rw [nI_clamp (by omega)]⟩, fun z => absurd ⟨c1, c2, c3, c4⟩ z⟩
        · refine V.iconst (v := nI 0) (by decide) dX8_registers_19 ?_
          refine V.ri dX8_registers_20 rfl ?_
          exact ⟨fun z => by obtain ⟨z1, z2, z3, z4⟩ := z; contradiction, fun _ => ⟨rfl, rfl, rfl⟩⟩
/-- what stands at a place of a row of n, 0 where there is none such -/
def mz_get (n : Nat) (f : Nat → Int32) (k : Int32) : Int32 := if ¬ k < 0 ∧ k < nI n then f k.toNatClampNeg else 0
theorem mz_get_in {n j : Nat} {f : Nat → Int32} (hn : n < 2 ^ 31) (hj : j < n) : mz_get n f (nI j) = f j := by
  unfold mz_get
  rw [if_pos ⟨nI_pos (by omega), (nI_ltI (by omega) hn).mpr hj⟩, nI_clamp (by omega)]
set_option maxRecDepth 100000 in
set_option maxHeartbeats 4000000 in
theorem md_cell {G : am_G} (I A : Nat → Nat → Int32) (k : Int32) : Cm G MX8_cell 0 0 [.ref mM, .int k] I A (fun r I' A' => r = some (.int (mz_get 64 (A m_left) k)) ∧ I = I' ∧ A = A') := by
  refine Cm.of (by decide) (Nat.le_of_ble_eq_true rfl) rfl ?_
  show V G MX8_cell (am_R 0 0 0 0) _ 0 0 0 [(0, .ref mM), (1, .int k)] [] (hp I A)
  refine V.iload_n (j := 1) rfl dX8_cell_0 ?_
  refine V.if_lt (tgt := 10) dX8_cell_1 (by decide) (fun c1 => ?_) (fun c1 => ?_)
  · refine V.iconst (v := nI 0) (by decide) dX8_cell_10 ?_
    refine V.goto (tgt := 20) dX8_cell_11 (by decide) ?_
    refine V.ri dX8_cell_20 rfl ?_
    exact ⟨by first | rw [mz_get_in (by decide) hj] | (rw [mz_get, if_neg (by simp_all)]; rfl), rfl, rfl⟩
  · refine V.iload_n (j := 1) rfl dX8_cell_4 ?_
    refine V.bipush (v := nI 64) (by decide) dX8_cell_5 ?_
    refine V.icmp_lt (tgt := 14) dX8_cell_7 (by decide) (fun c2 => ?_) (fun c2 => ?_)
    · obtain ⟨j, hj, rfl⟩ := mz_lt (nv := 64) (by decide) c1 c2
      refine V.aload_n (j := 0) rfl dX8_cell_14 ?_
      refine V.getr (q := m_left) dX8_cell_15 fX8_61 rfl rfl ?_
      refine V.iload_n (j := 1) rfl dX8_cell_18 ?_
      refine V.lda (v := A m_left j) dX8_cell_19 rfl (by omega) (by decide) rfl ?_
      refine V.ri dX8_cell_20 rfl ?_
      exact ⟨by first | rw [mz_get_in (by decide) hj] | (rw [mz_get, if_neg (by simp_all)]; rfl), rfl, rfl⟩
    · refine V.iconst (v := nI 0) (by decide) dX8_cell_10 ?_
      refine V.goto (tgt := 20) dX8_cell_11 (by decide) ?_
      refine V.ri dX8_cell_20 rfl ?_
      exact ⟨by first | rw [mz_get_in (by decide) hj] | (rw [mz_get, if_neg (by simp_all)]; rfl), rfl, rfl⟩
set_option maxRecDepth 100000 in
set_option maxHeartbeats 4000000 in
theorem md_said {G : am_G} (I A : Nat → Nat → Int32) (k : Int32) : Cm G MX8_said 0 0 [.ref mM, .int k] I A (fun r I' A' => r = some (.int (if I mM 19 ≤ k then 0 else mz_get 50 (A m_said) k)) ∧ I = I' ∧ A = A') := by
  refine Cm.of (by decide) (Nat.le_of_ble_eq_true rfl) rfl ?_
  show V G MX8_said (am_R 0 0 0 0) _ 0 0 0 [(0, .ref mM), (1, .int k)] [] (hp I A)
  refine V.iload_n (j := 1) rfl dX8_said_0 ?_
  refine V.if_lt (tgt := 18) dX8_said_1 (by decide) (fun c1 => ?_) (fun c1 => ?_)
  · refine V.iconst (v := nI 0) (by decide) dX8_said_18 ?_
    refine V.goto (tgt := 28) dX8_said_19 (by decide) ?_
    refine V.ri dX8_said_28 rfl ?_
    exact ⟨by (try split) <;> first | rfl | (rw [mz_get, if_neg (by simp_all)]; rfl), rfl, rfl⟩
  · refine V.iload_n (j := 1) rfl dX8_said_4 ?_
    refine V.aload_n (j := 0) rfl dX8_said_5 ?_
    refine V.geti (v := I mM 19) dX8_said_6 fX8_175 rfl rfl rfl ?_
    refine V.icmp_ge (tgt := 18) dX8_said_9 (by decide) (fun c2 => ?_) (fun c2 => ?_)
    · refine V.iconst (v := nI 0) (by decide) dX8_said_18 ?_
      refine V.goto (tgt := 28) dX8_said_19 (by decide) ?_
      refine V.ri dX8_said_28 rfl ?_
      exact ⟨by (try split) <;> first | rfl | (rw [mz_get, if_neg (by simp_all)]; rfl), rfl, rfl⟩
    · refine V.iload_n (j := 1) rfl dX8_said_12 ?_
      refine V.bipush (v := nI 50) (by decide) dX8_said_13 ?_
      refine V.icmp_lt (tgt := 22) dX8_said_15 (by decide) (fun c3 => ?_) (fun c3 => ?_)
      · obtain ⟨j, hj, rfl⟩ := mz_lt (nv := 50) (by decide) c1 c3
        refine V.aload_n (j := 0) rfl dX8_said_22 ?_
        refine V.getr (q := m_said) dX8_said_23 fX8_58 rfl rfl ?_
        refine V.iload_n (j := 1) rfl dX8_said_26 ?_
        refine V.lda (v := A m_said j) dX8_said_27 rfl (by omega) (by decide) rfl ?_
        refine V.ri dX8_said_28 rfl ?_
        exact ⟨by rw [if_neg c2, mz_get_in (by decide) hj], rfl, rfl⟩
      · refine V.iconst (v := nI 0) (by decide) dX8_said_18 ?_
        refine V.goto (tgt := 28) dX8_said_19 (by decide) ?_
        refine V.ri dX8_said_28 rfl ?_
        exact ⟨by (try split) <;> first | rfl | (rw [mz_get, if_neg (by simp_all)]; rfl), rfl, rfl⟩
def mz_isO (nv : Nat) (cl : Nat → Int32) (v c : Int32) : Prop := mz_isV (nI nv) v ∧ cl v.toNatClampNeg = c
set_option maxRecDepth 100000 in
set_option maxHeartbeats 4000000 in
theorem md_isOf {G : am_G} (I A : Nat → Nat → Int32) (nv : Nat) (hn : I mM 0 = nI nv) (hv : nv ≤ 24) (v c : Int32) : Cm G MX8_isOf 1 21 [.ref mM, .int v, .int c] I A (fun r I' A' => r = some (.int (bI (mz_isO nv (A m_classes) v c))) ∧ I = I' ∧ A = A') := by
  refine Cm.of (by decide) (Nat.le_of_ble_eq_true rfl) rfl ?_
  show V G MX8_isOf (am_R 1 21 0 0) _ 0 0 0 [(0, .ref mM), (1, .int v), (2, .int c)] [] (hp I A)
  refine V.aload_n (j := 0) rfl dX8_isOf_0 ?_
  refine V.iload_n (j := 1) rfl dX8_isOf_1 ?_
  refine V.cV (As := [.int v]) (st := []) dX8_isOf_2 sX8_83 iX8_isValue lX8_isValue rfl rfl (md_isV _ _ nv hn _) ⟨by decide, by decide⟩ (Nat.le_of_ble_eq_true rfl) rfl (fun r I' A' hq => ?_)
  obtain ⟨rfl, rfl, rfl⟩ := hq
  by_cases b1 : mz_isV (nI nv) (v)
  · refine V.st (st' := [.int (nI 1)]) (by rw [bI_t b1]; rfl) ?_
    obtain ⟨j, hj, rfl⟩ := mz_nat (by omega) b1
    refine V.if_eq (tgt := 22) dX8_isOf_5 (by decide) (fun z => absurd z (by decide)) (fun _ => ?_)
    refine V.aload_n (j := 0) rfl dX8_isOf_8 ?_
    refine V.getr (q := m_classes) dX8_isOf_9 fX8_7 rfl rfl ?_
    refine V.iload_n (j := 1) rfl dX8_isOf_12 ?_
    refine V.lda (v := A m_classes j) dX8_isOf_13 rfl (by omega) (by decide) rfl ?_
    refine V.iload_n (j := 2) rfl dX8_isOf_14 ?_
    refine V.icmp_ne (tgt := 22) dX8_isOf_15 (by decide) (fun c3 => ?_) (fun c3 => ?_)
    · refine V.iconst (v := nI 0) (by decide) dX8_isOf_22 ?_
      refine V.rz dX8_isOf_23 rfl (by decide) ?_
      exact ⟨by first | exact am_s1 ⟨b1, by rw [nI_clamp (by omega)]; first | exact c2 | exact c3⟩ | exact am_s0 (fun z => absurd z.1 b1) | exact am_s0 (fun z => by have z2 := z.2; rw [nI_clamp (by omega)] at z2; contradiction), rfl, rfl⟩
    · refine V.iconst (v := nI 1) (by decide) dX8_isOf_18 ?_
      refine V.goto (tgt := 23) dX8_isOf_19 (by decide) ?_
      refine V.rz dX8_isOf_23 rfl (by decide) ?_
      exact ⟨by first | exact am_s1 ⟨b1, by rw [nI_clamp (by omega)]; first | exact c2 | exact c3⟩ | exact am_s0 (fun z => absurd z.1 b1) | exact am_s0 (fun z => by have z2 := z.2; rw [nI_clamp (by omega)] at z2; contradiction), rfl, rfl⟩
  · refine V.st (st' := [.int (nI 0)]) (by rw [bI_f b1]; rfl) ?_
    refine V.if_eq (tgt := 22) dX8_isOf_5 (by decide) (fun _ => ?_) (fun z => absurd z (by decide))
    refine V.iconst (v := nI 0) (by decide) dX8_isOf_22 ?_
    refine V.rz dX8_isOf_23 rfl (by decide) ?_
    exact ⟨by first | exact am_s1 ⟨b1, by rw [nI_clamp (by omega)]; first | exact c2 | exact c3⟩ | exact am_s0 (fun z => absurd z.1 b1) | exact am_s0 (fun z => by have z2 := z.2; rw [nI_clamp (by omega)] at z2; contradiction), rfl, rfl⟩
def mz_may (nv : Nat) (cl : Nat → Int32) (o a b c : Int32) : Prop :=
  (o = nI 0 ∧ mz_isV (nI nv) a) ∨ (o = nI 1 ∧ mz_isV (nI nv) a ∧ mz_isV (nI nv) b) ∨ ((o = nI 2 ∨ o = nI 3) ∧ mz_isV (nI nv) a ∧ mz_isV (nI nv) b ∧ mz_isV (nI nv) c) ∨ (o = nI 4 ∧ mz_isO nv cl a (nI 0) ∧ mz_isO nv cl b (nI 0) ∧ mz_isO nv cl c (nI 0)) ∨ ((o = nI 5 ∨ o = nI 6) ∧ mz_isV (nI nv) a ∧ mz_isO nv cl b (nI 1) ∧ ¬ c < 0 ∧ ¬ nI 64 ≤ c) ∨ (o = nI 7 ∧ mz_isV (nI nv) a ∧ mz_isV (nI nv) b ∧ ¬ c < 0 ∧ ¬ nI 60 < c) ∨ (o = nI 8 ∧ ¬ a < 0 ∧ ¬ nI 60 < a) ∨ (o = nI 9 ∧ mz_isV (nI nv) a) ∨ o = nI 10
theorem nI_ne11 : ∀ i : Fin 11, ∀ j : Fin 11, i ≠ j → ¬ nI i.val = nI j.val := by decide +kernel
set_option maxRecDepth 100000 in
set_option maxHeartbeats 4000000 in
theorem md_mayBe {G : am_G} (I A : Nat → Nat → Int32) (nv : Nat) (hn : I mM 0 = nI nv) (hv : nv ≤ 24) (o a b c : Int32) : Cm G MX8_mayBe 2 43 [.ref mM, .int o, .int a, .int b, .int c] I A (fun r I' A' => r = some (.int (bI (mz_may nv (A m_classes) o a b c))) ∧ I = I' ∧ A = A') := by
  refine Cm.of (by decide) (Nat.le_of_ble_eq_true rfl) rfl ?_
  show V G MX8_mayBe (am_R 2 43 0 0) _ 0 0 0 [(0, .ref mM), (1, .int o), (2, .int a), (3, .int b), (4, .int c)] [] (hp I A)
  refine V.iload_n (j := 1) rfl dX8_mayBe_0 ?_
  by_cases q1 : o = nI 0
  · refine V.st (st' := [.int (nI 0)]) (by rw [q1]) ?_
    refine V.tableIn (tgt := 56) dX8_mayBe_1 (by decide) (by decide) rfl (by decide) ?_
    refine V.aload_n (j := 0) rfl dX8_mayBe_56 ?_
    refine V.iload_n (j := 2) rfl dX8_mayBe_57 ?_
    refine V.cV (As := [.int a]) (st := []) dX8_mayBe_58 sX8_83 iX8_isValue lX8_isValue rfl rfl (md_isV _ _ nv hn _) ⟨by decide, by decide⟩ (Nat.le_of_ble_eq_true rfl) rfl (fun r I' A' hq => ?_)
    obtain ⟨rfl, rfl, rfl⟩ := hq
    by_cases b2 : mz_isV (nI nv) (a)
    · refine V.st (st' := [.int (nI 1)]) (by rw [bI_t b2]; rfl) ?_
      refine V.rz dX8_mayBe_61 rfl (by decide) ?_
      have ne := And.intro (nI_ne11 0 1 (by decide)) trivial
      have n1 : ¬ o = nI 1 := by rw [q1]; decide
      have n2 : ¬ o = nI 2 := by rw [q1]; decide
      have n3 : ¬ o = nI 3 := by rw [q1]; decide
      have n4 : ¬ o = nI 4 := by rw [q1]; decide
      have n5 : ¬ o = nI 5 := by rw [q1]; decide
      have n6 : ¬ o = nI 6 := by rw [q1]; decide
      have n7 : ¬ o = nI 7 := by rw [q1]; decide
      have n8 : ¬ o = nI 8 := by rw [q1]; decide
      have n9 : ¬ o = nI 9 := by rw [q1]; decide
      have n10 : ¬ o = nI 10 := by rw [q1]; decide
      exact ⟨by first | exact am_s1 (by simp_all only [mz_may, true_and, false_and, and_true, and_false, or_false, false_or, not_true_eq_false, not_false_eq_true]) | exact am_s0 (by simp_all only [mz_may, true_and, false_and, and_true, and_false, or_false, false_or, not_true_eq_false, not_false_eq_true]), rfl, rfl⟩
    · refine V.st (st' := [.int (nI 0)]) (by rw [bI_f b2]; rfl) ?_
      refine V.rz dX8_mayBe_61 rfl (by decide) ?_
      have ne := And.intro (nI_ne11 0 1 (by decide)) trivial
      have n1 : ¬ o = nI 1 := by rw [q1]; decide
      have n2 : ¬ o = nI 2 := by rw [q1]; decide
      have n3 : ¬ o = nI 3 := by rw [q1]; decide
      have n4 : ¬ o = nI 4 := by rw [q1]; decide
      have n5 : ¬ o = nI 5 := by rw [q1]; decide
      have n6 : ¬ o = nI 6 := by rw [q1]; decide
      have n7 : ¬ o = nI 7 := by rw [q1]; decide
      have n8 : ¬ o = nI 8 := by rw [q1]; decide
      have n9 : ¬ o = nI 9 := by rw [q1]; decide
      have n10 : ¬ o = nI 10 := by rw [q1]; decide
      exact ⟨by first | exact am_s1 (by simp_all only [mz_may, true_and, false_and, and_true, and_false, or_false, false_or, not_true_eq_false, not_false_eq_true]) | exact am_s0 (by simp_all only [mz_may, true_and, false_and, and_true, and_false, or_false, false_or, not_true_eq_false, not_false_eq_true]), rfl, rfl⟩
  by_cases q3 : o = nI 1
  · refine V.st (st' := [.int (nI 1)]) (by rw [q3]) ?_
    refine V.tableIn (tgt := 62) dX8_mayBe_1 (by decide) (by decide) rfl (by decide) ?_
    refine V.aload_n (j := 0) rfl dX8_mayBe_62 ?_
    refine V.iload_n (j := 2) rfl dX8_mayBe_63 ?_
    refine V.cV (As := [.int a]) (st := []) dX8_mayBe_64 sX8_83 iX8_isValue lX8_isValue rfl rfl (md_isV _ _ nv hn _) ⟨by decide, by decide⟩ (Nat.le_of_ble_eq_true rfl) rfl (fun r I' A' hq => ?_)
    obtain ⟨rfl, rfl, rfl⟩ := hq
    by_cases b4 : mz_isV (nI nv) (a)
    · refine V.st (st' := [.int (nI 1)]) (by rw [bI_t b4]; rfl) ?_
      refine V.if_eq (tgt := 82) dX8_mayBe_67 (by decide) (fun z => absurd z (by decide)) (fun _ => ?_)
      refine V.aload_n (j := 0) rfl dX8_mayBe_70 ?_
      refine V.iload_n (j := 3) rfl dX8_mayBe_71 ?_
      refine V.cV (As := [.int b]) (st := []) dX8_mayBe_72 sX8_83 iX8_isValue lX8_isValue rfl rfl (md_isV _ _ nv hn _) ⟨by decide, by decide⟩ (Nat.le_of_ble_eq_true rfl) rfl (fun r I' A' hq => ?_)
      obtain ⟨rfl, rfl, rfl⟩ := hq
      by_cases b6 : mz_isV (nI nv) (b)
      · refine V.st (st' := [.int (nI 1)]) (by rw [bI_t b6]; rfl) ?_
        refine V.if_eq (tgt := 82) dX8_mayBe_75 (by decide) (fun z => absurd z (by decide)) (fun _ => ?_)
        refine V.iconst (v := nI 1) (by decide) dX8_mayBe_78 ?_
        refine V.goto (tgt := 83) dX8_mayBe_79 (by decide) ?_
        refine V.rz dX8_mayBe_83 rfl (by decide) ?_
        have ne := And.intro (nI_ne11 1 0 (by decide)) trivial
        have n0 : ¬ o = nI 0 := by rw [q3]; decide
        have n2 : ¬ o = nI 2 := by rw [q3]; decide
        have n3 : ¬ o = nI 3 := by rw [q3]; decide
        have n4 : ¬ o = nI 4 := by rw [q3]; decide
        have n5 : ¬ o = nI 5 := by rw [q3]; decide
        have n6 : ¬ o = nI 6 := by rw [q3]; decide
        have n7 : ¬ o = nI 7 := by rw [q3]; decide
        have n8 : ¬ o = nI 8 := by rw [q3]; decide
        have n9 : ¬ o = nI 9 := by rw [q3]; decide
        have n10 : ¬ o = nI 10 := by rw [q3]; decide
        exact ⟨by first | exact am_s1 (by simp_all only [mz_may, true_and, false_and, and_true, and_false, or_false, false_or, not_true_eq_false, not_false_eq_true]) | exact am_s0 (by simp_all only [mz_may, true_and, false_and, and_true, and_false, or_false, false_or, not_true_eq_false, not_false_eq_true]), rfl, rfl⟩
      · refine V.st (st' := [.int (nI 0)]) (by rw [bI_f b6]; rfl) ?_
        refine V.if_eq (tgt := 82) dX8_mayBe_75 (by decide) (fun _ => ?_) (fun z => absurd z (by decide))
        refine V.iconst (v := nI 0) (by decide) dX8_mayBe_82 ?_
        refine V.rz dX8_mayBe_83 rfl (by decide) ?_
        have ne := And.intro (nI_ne11 1 0 (by decide)) trivial
        have n0 : ¬ o = nI 0 := by rw [q3]; decide
        have n2 : ¬ o = nI 2 := by rw [q3]; decide
        have n3 : ¬ o = nI 3 := by rw [q3]; decide
        have n4 : ¬ o = nI 4 := by rw [q3]; decide
        have n5 : ¬ o = nI 5 := by rw [q3]; decide
        have n6 : ¬ o = nI 6 := by rw [q3]; decide
        have n7 : ¬ o = nI 7 := by rw [q3]; decide
        have n8 : ¬ o = nI 8 := by rw [q3]; decide
        have n9 : ¬ o = nI 9 := by rw [q3]; decide
        have n10 : ¬ o = nI 10 := by rw [q3]; decide
        exact ⟨by first | exact am_s1 (by simp_all only [mz_may, true_and, false_and, and_true, and_false, or_false, false_or, not_true_eq_false, not_false_eq_true]) | exact am_s0 (by simp_all only [mz_may, true_and, false_and, and_true, and_false, or_false, false_or, not_true_eq_false, not_false_eq_true]), rfl, rfl⟩
    · refine V.st (st' := [.int (nI 0)]) (by rw [bI_f b4]; rfl) ?_
      refine V.if_eq (tgt := 82) dX8_mayBe_67 (by decide) (fun _ => ?_) (fun z => absurd z (by decide))
      refine V.iconst (v := nI 0) (by decide) dX8_mayBe_82 ?_
      refine V.rz dX8_mayBe_83 rfl (by decide) ?_
      have ne := And.intro (nI_ne11 1 0 (by decide)) trivial
      have n0 : ¬ o = nI 0 := by rw [q3]; decide
      have n2 : ¬ o = nI 2 := by rw [q3]; decide
      have n3 : ¬ o = nI 3 := by rw [q3]; decide
      have n4 : ¬ o = nI 4 := by rw [q3]; decide
      have n5 : ¬ o = nI 5 := by rw [q3]; decide
      have n6 : ¬ o = nI 6 := by rw [q3]; decide
      have n7 : ¬ o = nI 7 := by rw [q3]; decide
      have n8 : ¬ o = nI 8 := by rw [q3]; decide
      have n9 : ¬ o = nI 9 := by rw [q3]; decide
      have n10 : ¬ o = nI 10 := by rw [q3]; decide
      exact ⟨by first | exact am_s1 (by simp_all only [mz_may, true_and, false_and, and_true, and_false, or_false, false_or, not_true_eq_false, not_false_eq_true]) | exact am_s0 (by simp_all only [mz_may, true_and, false_and, and_true, and_false, or_false, false_or, not_true_eq_false, not_false_eq_true]), rfl, rfl⟩
  by_cases q10 : o = nI 2
  · refine V.st (st' := [.int (nI 2)]) (by rw [q10]) ?_
    refine V.tableIn (tgt := 84) dX8_mayBe_1 (by decide) (by decide) rfl (by decide) ?_
    refine V.aload_n (j := 0) rfl dX8_mayBe_84 ?_
    refine V.iload_n (j := 2) rfl dX8_mayBe_85 ?_
    refine V.cV (As := [.int a]) (st := []) dX8_mayBe_86 sX8_83 iX8_isValue lX8_isValue rfl rfl (md_isV _ _ nv hn _) ⟨by decide, by decide⟩ (Nat.le_of_ble_eq_true rfl) rfl (fun r I' A' hq => ?_)
    obtain ⟨rfl, rfl, rfl⟩ := hq
    by_cases b11 : mz_isV (nI nv) (a)
    · refine V.st (st' := [.int (nI 1)]) (by rw [bI_t b11]; rfl) ?_
      refine V.if_eq (tgt := 113) dX8_mayBe_89 (by decide) (fun z => absurd z (by decide)) (fun _ => ?_)
      refine V.aload_n (j := 0) rfl dX8_mayBe_92 ?_
      refine V.iload_n (j := 3) rfl dX8_mayBe_93 ?_
      refine V.cV (As := [.int b]) (st := []) dX8_mayBe_94 sX8_83 iX8_isValue lX8_isValue rfl rfl (md_isV _ _ nv hn _) ⟨by decide, by decide⟩ (Nat.le_of_ble_eq_true rfl) rfl (fun r I' A' hq => ?_)
      obtain ⟨rfl, rfl, rfl⟩ := hq
      by_cases b13 : mz_isV (nI nv) (b)
      · refine V.st (st' := [.int (nI 1)]) (by rw [bI_t b13]; rfl) ?_
        refine V.if_eq (tgt := 113) dX8_mayBe_97 (by decide) (fun z => absurd z (by decide)) (fun _ => ?_)
        refine V.aload_n (j := 0) rfl dX8_mayBe_100 ?_
        refine V.iload (j := 4) rfl dX8_mayBe_101 ?_
        refine V.cV (As := [.int c]) (st := []) dX8_mayBe_103 sX8_83 iX8_isValue lX8_isValue rfl rfl (md_isV _ _ nv hn _) ⟨by decide, by decide⟩ (Nat.le_of_ble_eq_true rfl) rfl (fun r I' A' hq => ?_)
        obtain ⟨rfl, rfl, rfl⟩ := hq
        by_cases b15 : mz_isV (nI nv) (c)
        · refine V.st (st' := [.int (nI 1)]) (by rw [bI_t b15]; rfl) ?_
          refine V.if_eq (tgt := 113) dX8_mayBe_106 (by decide) (fun z => absurd z (by decide)) (fun _ => ?_)
          refine V.iconst (v := nI 1) (by decide) dX8_mayBe_109 ?_
          refine V.goto (tgt := 114) dX8_mayBe_110 (by decide) ?_
          refine V.rz dX8_mayBe_114 rfl (by decide) ?_
          have ne := And.intro (nI_ne11 2 0 (by decide)) trivial
          have n0 : ¬ o = nI 0 := by rw [q10]; decide
          have n1 : ¬ o = nI 1 := by rw [q10]; decide
          have n3 : ¬ o = nI 3 := by rw [q10]; decide
          have n4 : ¬ o = nI 4 := by rw [q10]; decide
          have n5 : ¬ o = nI 5 := by rw [q10]; decide
          have n6 : ¬ o = nI 6 := by rw [q10]; decide
          have n7 : ¬ o = nI 7 := by rw [q10]; decide
          have n8 : ¬ o = nI 8 := by rw [q10]; decide
          have n9 : ¬ o = nI 9 := by rw [q10]; decide
          have n10 : ¬ o = nI 10 := by rw [q10]; decide
          exact ⟨by first | exact am_s1 (by simp_all only [mz_may, true_and, false_and, and_true, and_false, or_false, false_or, not_true_eq_false, not_false_eq_true]) | exact am_s0 (by simp_all only [mz_may, true_and, false_and, and_true, and_false, or_false, false_or, not_true_eq_false, not_false_eq_true]), rfl, rfl⟩
        · refine V.st (st' := [.int (nI 0)]) (by rw [bI_f b15]; rfl) ?_
          refine V.if_eq (tgt := 113) dX8_mayBe_106 (by decide) (fun _ => ?_) (fun z => absurd z (by decide))
          refine V.iconst (v := nI 0) (by decide) dX8_mayBe_113 ?_
          refine V.rz dX8_mayBe_114 rfl (by decide) ?_
          have ne := And.intro (nI_ne11 2 0 (by decide)) trivial
          have n0 : ¬ o = nI 0 := by rw [q10]; decide
          have n1 : ¬ o = nI 1 := by rw [q10]; decide
          have n3 : ¬ o = nI 3 := by rw [q10]; decide
          have n4 : ¬ o = nI 4 := by rw [q10]; decide
          have n5 : ¬ o = nI 5 := by rw [q10]; decide
          have n6 : ¬ o = nI 6 := by rw [q10]; decide
          have n7 : ¬ o = nI 7 := by rw [q10]; decide
          have n8 : ¬ o = nI 8 := by rw [q10]; decide
          have n9 : ¬ o = nI 9 := by rw [q10]; decide
          have n10 : ¬ o = nI 10 := by rw [q10]; decide
          exact ⟨by first | exact am_s1 (by simp_all only [mz_may, true_and, false_and, and_true, and_false, or_false, false_or, not_true_eq_false, not_false_eq_true]) | exact am_s0 (by simp_all only [mz_may, true_and, false_and, and_true, and_false, or_false, false_or, not_true_eq_false, not_false_eq_true]), rfl, rfl⟩
      · refine V.st (st' := [.int (nI 0)]) (by rw [bI_f b13]; rfl) ?_
        refine V.if_eq (tgt := 113) dX8_mayBe_97 (by decide) (fun _ => ?_) (fun z => absurd z (by decide))
        refine V.iconst (v := nI 0) (by decide) dX8_mayBe_113 ?_
        refine V.rz dX8_mayBe_114 rfl (by decide) ?_
        have ne := And.intro (nI_ne11 2 0 (by decide)) trivial
        have n0 : ¬ o = nI 0 := by rw [q10]; decide
        have n1 : ¬ o = nI 1 := by rw [q10]; decide
        have n3 : ¬ o = nI 3 := by rw [q10]; decide
        have n4 : ¬ o = nI 4 := by rw [q10]; decide
        have n5 : ¬ o = nI 5 := by rw [q10]; decide
        have n6 : ¬ o = nI 6 := by rw [q10]; decide
        have n7 : ¬ o = nI 7 := by rw [q10]; decide
        have n8 : ¬ o = nI 8 := by rw [q10]; decide
        have n9 : ¬ o = nI 9 := by rw [q10]; decide
        have n10 : ¬ o = nI 10 := by rw [q10]; decide
        exact ⟨by first | exact am_s1 (by simp_all only [mz_may, true_and, false_and, and_true, and_false, or_false, false_or, not_true_eq_false, not_false_eq_true]) | exact am_s0 (by simp_all only [mz_may, true_and, false_and, and_true, and_false, or_false, false_or, not_true_eq_false, not_false_eq_true]), rfl, rfl⟩
    · refine V.st (st' := [.int (nI 0)]) (by rw [bI_f b11]; rfl) ?_
      refine V.if_eq (tgt := 113) dX8_mayBe_89 (by decide) (fun _ => ?_) (fun z => absurd z (by decide))
      refine V.iconst (v := nI 0) (by decide) dX8_mayBe_113 ?_
      refine V.rz dX8_mayBe_114 rfl (by decide) ?_
      have ne := And.intro (nI_ne11 2 0 (by decide)) trivial
      have n0 : ¬ o = nI 0 := by rw [q10]; decide
      have n1 : ¬ o = nI 1 := by rw [q10]; decide
      have n3 : ¬ o = nI 3 := by rw [q10]; decide
      have n4 : ¬ o = nI 4 := by rw [q10]; decide
      have n5 : ¬ o = nI 5 := by rw [q10]; decide
      have n6 : ¬ o = nI 6 := by rw [q10]; decide
      have n7 : ¬ o = nI 7 := by rw [q10]; decide
      have n8 : ¬ o = nI 8 := by rw [q10]; decide
      have n9 : ¬ o = nI 9 := by rw [q10]; decide
      have n10 : ¬ o = nI 10 := by rw [q10]; decide
      exact ⟨by first | exact am_s1 (by simp_all only [mz_may, true_and, false_and, and_true, and_false, or_false, false_or, not_true_eq_false, not_false_eq_true]) | exact am_s0 (by simp_all only [mz_may, true_and, false_and, and_true, and_false, or_false, false_or, not_true_eq_false, not_false_eq_true]), rfl, rfl⟩
  by_cases q20 : o = nI 3
  · refine V.st (st' := [.int (nI 3)]) (by rw [q20]) ?_
    refine V.tableIn (tgt := 84) dX8_mayBe_1 (by decide) (by decide) rfl (by decide) ?_
    refine V.aload_n (j := 0) rfl dX8_mayBe_84 ?_
    refine V.iload_n (j := 2) rfl dX8_mayBe_85 ?_
    refine V.cV (As := [.int a]) (st := []) dX8_mayBe_86 sX8_83 iX8_isValue lX8_isValue rfl rfl (md_isV _ _ nv hn _) ⟨by decide, by decide⟩ (Nat.le_of_ble_eq_true rfl) rfl (fun r I' A' hq => ?_)
    obtain ⟨rfl, rfl, rfl⟩ := hq
    by_cases b21 : mz_isV (nI nv) (a)
    · refine V.st (st' := [.int (nI 1)]) (by rw [bI_t b21]; rfl) ?_
      refine V.if_eq (tgt := 113) dX8_mayBe_89 (by decide) (fun z => absurd z (by decide)) (fun _ => ?_)
      refine V.aload_n (j := 0) rfl dX8_mayBe_92 ?_
      refine V.iload_n (j := 3) rfl dX8_mayBe_93 ?_
      refine V.cV (As := [.int b]) (st := []) dX8_mayBe_94 sX8_83 iX8_isValue lX8_isValue rfl rfl (md_isV _ _ nv hn _) ⟨by decide, by decide⟩ (Nat.le_of_ble_eq_true rfl) rfl (fun r I' A' hq => ?_)
      obtain ⟨rfl, rfl, rfl⟩ := hq
      by_cases b23 : mz_isV (nI nv) (b)
      · refine V.st (st' := [.int (nI 1)]) (by rw [bI_t b23]; rfl) ?_
        refine V.if_eq (tgt := 113) dX8_mayBe_97 (by decide) (fun z => absurd z (by decide)) (fun _ => ?_)
        refine V.aload_n (j := 0) rfl dX8_mayBe_100 ?_
        refine V.iload (j := 4) rfl dX8_mayBe_101 ?_
        refine V.cV (As := [.int c]) (st := []) dX8_mayBe_103 sX8_83 iX8_isValue lX8_isValue rfl rfl (md_isV _ _ nv hn _) ⟨by decide, by decide⟩ (Nat.le_of_ble_eq_true rfl) rfl (fun r I' A' hq => ?_)
        obtain ⟨rfl, rfl, rfl⟩ := hq
        by_cases b25 : mz_isV (nI nv) (c)
        · refine V.st (st' := [.int (nI 1)]) (by rw [bI_t b25]; rfl) ?_
          refine V.if_eq (tgt := 113) dX8_mayBe_106 (by decide) (fun z => absurd z (by decide)) (fun _ => ?_)
          refine V.iconst (v := nI 1) (by decide) dX8_mayBe_109 ?_
          refine V.goto (tgt := 114) dX8_mayBe_110 (by decide) ?_
          refine V.rz dX8_mayBe_114 rfl (by decide) ?_
          have ne := And.intro (nI_ne11 3 0 (by decide)) trivial
          have n0 : ¬ o = nI 0 := by rw [q20]; decide
          have n1 : ¬ o = nI 1 := by rw [q20]; decide
          have n2 : ¬ o = nI 2 := by rw [q20]; decide
          have n4 : ¬ o = nI 4 := by rw [q20]; decide
          have n5 : ¬ o = nI 5 := by rw [q20]; decide
          have n6 : ¬ o = nI 6 := by rw [q20]; decide
          have n7 : ¬ o = nI 7 := by rw [q20]; decide
          have n8 : ¬ o = nI 8 := by rw [q20]; decide
          have n9 : ¬ o = nI 9 := by rw [q20]; decide
          have n10 : ¬ o = nI 10 := by rw [q20]; decide
          exact ⟨by first | exact am_s1 (by simp_all only [mz_may, true_and, false_and, and_true, and_false, or_false, false_or, not_true_eq_false, not_false_eq_true]) | exact am_s0 (by simp_all only [mz_may, true_and, false_and, and_true, and_false, or_false, false_or, not_true_eq_false, not_false_eq_true]), rfl, rfl⟩
        · refine V.st (st' := [.int (nI 0)]) (by rw [bI_f b25]; rfl) ?_
          refine V.if_eq (tgt := 113) dX8_mayBe_106 (by decide) (fun _ => ?_) (fun z => absurd z (by decide))
          refine V.iconst (v := nI 0) (by decide) dX8_mayBe_113 ?_
          refine V.rz dX8_mayBe_114 rfl (by decide) ?_
          have ne := And.intro (nI_ne11 3 0 (by decide)) trivial
          have n0 : ¬ o = nI 0 := by rw [q20]; decide
          have n1 : ¬ o = nI 1 := by rw [q20]; decide
          have n2 : ¬ o = nI 2 := by rw [q20]; decide
          have n4 : ¬ o = nI 4 := by rw [q20]; decide
          have n5 : ¬ o = nI 5 := by rw [q20]; decide
          have n6 : ¬ o = nI 6 := by rw [q20]; decide
          have n7 : ¬ o = nI 7 := by rw [q20]; decide
          have n8 : ¬ o = nI 8 := by rw [q20]; decide
          have n9 : ¬ o = nI 9 := by rw [q20]; decide
          have n10 : ¬ o = nI 10 := by rw [q20]; decide
          exact ⟨by first | exact am_s1 (by simp_all only [mz_may, true_and, false_and, and_true, and_false, or_false, false_or, not_true_eq_false, not_false_eq_true]) | exact am_s0 (by simp_all only [mz_may, true_and, false_and, and_true, and_false, or_false, false_or, not_true_eq_false, not_false_eq_true]), rfl, rfl⟩
      · refine V.st (st' := [.int (nI 0)]) (by rw [bI_f b23]; rfl) ?_
        refine V.if_eq (tgt := 113) dX8_mayBe_97 (by decide) (fun _ => ?_) (fun z => absurd z (by decide))
        refine V.iconst (v := nI 0) (by decide) dX8_mayBe_113 ?_
        refine V.rz dX8_mayBe_114 rfl (by decide) ?_
        have ne := And.intro (nI_ne11 3 0 (by decide)) trivial
        have n0 : ¬ o = nI 0 := by rw [q20]; decide
        have n1 : ¬ o = nI 1 := by rw [q20]; decide
        have n2 : ¬ o = nI 2 := by rw [q20]; decide
        have n4 : ¬ o = nI 4 := by rw [q20]; decide
        have n5 : ¬ o = nI 5 := by rw [q20]; decide
        have n6 : ¬ o = nI 6 := by rw [q20]; decide
        have n7 : ¬ o = nI 7 := by rw [q20]; decide
        have n8 : ¬ o = nI 8 := by rw [q20]; decide
        have n9 : ¬ o = nI 9 := by rw [q20]; decide
        have n10 : ¬ o = nI 10 := by rw [q20]; decide
        exact ⟨by first | exact am_s1 (by simp_all only [mz_may, true_and, false_and, and_true, and_false, or_false, false_or, not_true_eq_false, not_false_eq_true]) | exact am_s0 (by simp_all only [mz_may, true_and, false_and, and_true, and_false, or_false, false_or, not_true_eq_false, not_false_eq_true]), rfl, rfl⟩
    · refine V.st (st' := [.int (nI 0)]) (by rw [bI_f b21]; rfl) ?_
      refine V.if_eq (tgt := 113) dX8_mayBe_89 (by decide) (fun _ => ?_) (fun z => absurd z (by decide))
      refine V.iconst (v := nI 0) (by decide) dX8_mayBe_113 ?_
      refine V.rz dX8_mayBe_114 rfl (by decide) ?_
      have ne := And.intro (nI_ne11 3 0 (by decide)) trivial
      have n0 : ¬ o = nI 0 := by rw [q20]; decide
      have n1 : ¬ o = nI 1 := by rw [q20]; decide
      have n2 : ¬ o = nI 2 := by rw [q20]; decide
      have n4 : ¬ o = nI 4 := by rw [q20]; decide
      have n5 : ¬ o = nI 5 := by rw [q20]; decide
      have n6 : ¬ o = nI 6 := by rw [q20]; decide
      have n7 : ¬ o = nI 7 := by rw [q20]; decide
      have n8 : ¬ o = nI 8 := by rw [q20]; decide
      have n9 : ¬ o = nI 9 := by rw [q20]; decide
      have n10 : ¬ o = nI 10 := by rw [q20]; decide
      exact ⟨by first | exact am_s1 (by simp_all only [mz_may, true_and, false_and, and_true, and_false, or_false, false_or, not_true_eq_false, not_false_eq_true]) | exact am_s0 (by simp_all only [mz_may, true_and, false_and, and_true, and_false, or_false, false_or, not_true_eq_false, not_false_eq_true]), rfl, rfl⟩
  by_cases q30 : o = nI 4
  · refine V.st (st' := [.int (nI 4)]) (by rw [q30]) ?_
    refine V.tableIn (tgt := 115) dX8_mayBe_1 (by decide) (by decide) rfl (by decide) ?_
    refine V.aload_n (j := 0) rfl dX8_mayBe_115 ?_
    refine V.iload_n (j := 2) rfl dX8_mayBe_116 ?_
    refine V.iconst (v := nI 0) (by decide) dX8_mayBe_117 ?_
    refine V.cV (As := [.int a, .int (nI 0)]) (st := []) dX8_mayBe_118 sX8_87 iX8_isOf lX8_isOf rfl rfl (md_isOf _ _ nv hn hv _ _) ⟨by decide, by decide⟩ (Nat.le_of_ble_eq_true rfl) rfl (fun r I' A' hq => ?_)
    obtain ⟨rfl, rfl, rfl⟩ := hq
    by_cases b31 : mz_isO nv (A m_classes) (a) (nI 0)
    · refine V.st (st' := [.int (nI 1)]) (by rw [bI_t b31]; rfl) ?_
      refine V.if_eq (tgt := 147) dX8_mayBe_121 (by decide) (fun z => absurd z (by decide)) (fun _ => ?_)
      refine V.aload_n (j := 0) rfl dX8_mayBe_124 ?_
      refine V.iload_n (j := 3) rfl dX8_mayBe_125 ?_
      refine V.iconst (v := nI 0) (by decide) dX8_mayBe_126 ?_
      refine V.cV (As := [.int b, .int (nI 0)]) (st := []) dX8_mayBe_127 sX8_87 iX8_isOf lX8_isOf rfl rfl (md_isOf _ _ nv hn hv _ _) ⟨by decide, by decide⟩ (Nat.le_of_ble_eq_true rfl) rfl (fun r I' A' hq => ?_)
      obtain ⟨rfl, rfl, rfl⟩ := hq
      by_cases b33 : mz_isO nv (A m_classes) (b) (nI 0)
      · refine V.st (st' := [.int (nI 1)]) (by rw [bI_t b33]; rfl) ?_
        refine V.if_eq (tgt := 147) dX8_mayBe_130 (by decide) (fun z => absurd z (by decide)) (fun _ => ?_)
        refine V.aload_n (j := 0) rfl dX8_mayBe_133 ?_
        refine V.iload (j := 4) rfl dX8_mayBe_134 ?_
        refine V.iconst (v := nI 0) (by decide) dX8_mayBe_136 ?_
        refine V.cV (As := [.int c, .int (nI 0)]) (st := []) dX8_mayBe_137 sX8_87 iX8_isOf lX8_isOf rfl rfl (md_isOf _ _ nv hn hv _ _) ⟨by decide, by decide⟩ (Nat.le_of_ble_eq_true rfl) rfl (fun r I' A' hq => ?_)
        obtain ⟨rfl, rfl, rfl⟩ := hq
        by_cases b35 : mz_isO nv (A m_classes) (c) (nI 0)
        · refine V.st (st' := [.int (nI 1)]) (by rw [bI_t b35]; rfl) ?_
          refine V.if_eq (tgt := 147) dX8_mayBe_140 (by decide) (fun z => absurd z (by decide)) (fun _ => ?_)
          refine V.iconst (v := nI 1) (by decide) dX8_mayBe_143 ?_
          refine V.goto (tgt := 148) dX8_mayBe_144 (by decide) ?_
          refine V.rz dX8_mayBe_148 rfl (by decide) ?_
          have ne := And.intro (nI_ne11 4 0 (by decide)) trivial
          have n0 : ¬ o = nI 0 := by rw [q30]; decide
          have n1 : ¬ o = nI 1 := by rw [q30]; decide
          have n2 : ¬ o = nI 2 := by rw [q30]; decide
          have n3 : ¬ o = nI 3 := by rw [q30]; decide
          have n5 : ¬ o = nI 5 := by rw [q30]; decide
          have n6 : ¬ o = nI 6 := by rw [q30]; decide
          have n7 : ¬ o = nI 7 := by rw [q30]; decide
          have n8 : ¬ o = nI 8 := by rw [q30]; decide
          have n9 : ¬ o = nI 9 := by rw [q30]; decide
          have n10 : ¬ o = nI 10 := by rw [q30]; decide
          exact ⟨by first | exact am_s1 (by simp_all only [mz_may, true_and, false_and, and_true, and_false, or_false, false_or, not_true_eq_false, not_false_eq_true]) | exact am_s0 (by simp_all only [mz_may, true_and, false_and, and_true, and_false, or_false, false_or, not_true_eq_false, not_false_eq_true]), rfl, rfl⟩
        · refine V.st (st' := [.int (nI 0)]) (by rw [bI_f b35]; rfl) ?_
          refine V.if_eq (tgt := 147) dX8_mayBe_140 (by decide) (fun _ => ?_) (fun z => absurd z (by decide))
          refine V.iconst (v := nI 0) (by decide) dX8_mayBe_147 ?_
          refine V.rz dX8_mayBe_148 rfl (by decide) ?_
          have ne := And.intro (nI_ne11 4 0 (by decide)) trivial
          have n0 : ¬ o = nI 0 := by rw [q30]; decide
          have n1 : ¬ o = nI 1 := by rw [q30]; decide
          have n2 : ¬ o = nI 2 := by rw [q30]; decide
          have n3 : ¬ o = nI 3 := by rw [q30]; decide
          have n5 : ¬ o = nI 5 := by rw [q30]; decide
          have n6 : ¬ o = nI 6 := by rw [q30]; decide
          have n7 : ¬ o = nI 7 := by rw [q30]; decide
          have n8 : ¬ o = nI 8 := by rw [q30]; decide
          have n9 : ¬ o = nI 9 := by rw [q30]; decide
          have n10 : ¬ o = nI 10 := by rw [q30]; decide
          exact ⟨by first | exact am_s1 (by simp_all only [mz_may, true_and, false_and, and_true, and_false, or_false, false_or, not_true_eq_false, not_false_eq_true]) | exact am_s0 (by simp_all only [mz_may, true_and, false_and, and_true, and_false, or_false, false_or, not_true_eq_false, not_false_eq_true]), rfl, rfl⟩
      · refine V.st (st' := [.int (nI 0)]) (by rw [bI_f b33]; rfl) ?_
        refine V.if_eq (tgt := 147) dX8_mayBe_130 (by decide) (fun _ => ?_) (fun z => absurd z (by decide))
        refine V.iconst (v := nI 0) (by decide) dX8_mayBe_147 ?_
        refine V.rz dX8_mayBe_148 rfl (by decide) ?_
        have ne := And.intro (nI_ne11 4 0 (by decide)) trivial
        have n0 : ¬ o = nI 0 := by rw [q30]; decide
        have n1 : ¬ o = nI 1 := by rw [q30]; decide
        have n2 : ¬ o = nI 2 := by rw [q30]; decide
        have n3 : ¬ o = nI 3 := by rw [q30]; decide
        have n5 : ¬ o = nI 5 := by rw [q30]; decide
        have n6 : ¬ o = nI 6 := by rw [q30]; decide
        have n7 : ¬ o = nI 7 := by rw [q30]; decide
        have n8 : ¬ o = nI 8 := by rw [q30]; decide
        have n9 : ¬ o = nI 9 := by rw [q30]; decide
        have n10 : ¬ o = nI 10 := by rw [q30]; decide
        exact ⟨by first | exact am_s1 (by simp_all only [mz_may, true_and, false_and, and_true, and_false, or_false, false_or, not_true_eq_false, not_false_eq_true]) | exact am_s0 (by simp_all only [mz_may, true_and, false_and, and_true, and_false, or_false, false_or, not_true_eq_false, not_false_eq_true]), rfl, rfl⟩
    · refine V.st (st' := [.int (nI 0)]) (by rw [bI_f b31]; rfl) ?_
      refine V.if_eq (tgt := 147) dX8_mayBe_121 (by decide) (fun _ => ?_) (fun z => absurd z (by decide))
      refine V.iconst (v := nI 0) (by decide) dX8_mayBe_147 ?_
      refine V.rz dX8_mayBe_148 rfl (by decide) ?_
      have ne := And.intro (nI_ne11 4 0 (by decide)) trivial
      have n0 : ¬ o = nI 0 := by rw [q30]; decide
      have n1 : ¬ o = nI 1 := by rw [q30]; decide
      have n2 : ¬ o = nI 2 := by rw [q30]; decide
      have n3 : ¬ o = nI 3 := by rw [q30]; decide
      have n5 : ¬ o = nI 5 := by rw [q30]; decide
      have n6 : ¬ o = nI 6 := by rw [q30]; decide
      have n7 : ¬ o = nI 7 := by rw [q30]; decide
      have n8 : ¬ o = nI 8 := by rw [q30]; decide
      have n9 : ¬ o = nI 9 := by rw [q30]; decide
      have n10 : ¬ o = nI 10 := by rw [q30]; decide
      exact ⟨by first | exact am_s1 (by simp_all only [mz_may, true_and, false_and, and_true, and_false, or_false, false_or, not_true_eq_false, not_false_eq_true]) | exact am_s0 (by simp_all only [mz_may, true_and, false_and, and_true, and_false, or_false, false_or, not_true_eq_false, not_false_eq_true]), rfl, rfl⟩
  by_cases q40 : o = nI 5
  · refine V.st (st' := [.int (nI 5)]) (by rw [q40]) ?_
    refine V.tableIn (tgt := 149) dX8_mayBe_1 (by decide) (by decide) rfl (by decide) ?_
    refine V.aload_n (j := 0) rfl dX8_mayBe_149 ?_
    refine V.iload_n (j := 2) rfl dX8_mayBe_150 ?_
    refine V.cV (As := [.int a]) (st := []) dX8_mayBe_151 sX8_83 iX8_isValue lX8_isValue rfl rfl (md_isV _ _ nv hn _) ⟨by decide, by decide⟩ (Nat.le_of_ble_eq_true rfl) rfl (fun r I' A' hq => ?_)
    obtain ⟨rfl, rfl, rfl⟩ := hq
    by_cases b41 : mz_isV (nI nv) (a)
    · refine V.st (st' := [.int (nI 1)]) (by rw [bI_t b41]; rfl) ?_
      refine V.if_eq (tgt := 182) dX8_mayBe_154 (by decide) (fun z => absurd z (by decide)) (fun _ => ?_)
      refine V.aload_n (j := 0) rfl dX8_mayBe_157 ?_
      refine V.iload_n (j := 3) rfl dX8_mayBe_158 ?_
      refine V.iconst (v := nI 1) (by decide) dX8_mayBe_159 ?_
      refine V.cV (As := [.int b, .int (nI 1)]) (st := []) dX8_mayBe_160 sX8_87 iX8_isOf lX8_isOf rfl rfl (md_isOf _ _ nv hn hv _ _) ⟨by decide, by decide⟩ (Nat.le_of_ble_eq_true rfl) rfl (fun r I' A' hq => ?_)
      obtain ⟨rfl, rfl, rfl⟩ := hq
      by_cases b43 : mz_isO nv (A m_classes) (b) (nI 1)
      · refine V.st (st' := [.int (nI 1)]) (by rw [bI_t b43]; rfl) ?_
        refine V.if_eq (tgt := 182) dX8_mayBe_163 (by decide) (fun z => absurd z (by decide)) (fun _ => ?_)
        refine V.iload (j := 4) rfl dX8_mayBe_166 ?_
        refine V.if_lt (tgt := 182) dX8_mayBe_168 (by decide) (fun c45 => ?_) (fun c45 => ?_)
        · refine V.iconst (v := nI 0) (by decide) dX8_mayBe_182 ?_
          refine V.rz dX8_mayBe_183 rfl (by decide) ?_
          have ne := And.intro (nI_ne11 5 0 (by decide)) trivial
          have n0 : ¬ o = nI 0 := by rw [q40]; decide
          have n1 : ¬ o = nI 1 := by rw [q40]; decide
          have n2 : ¬ o = nI 2 := by rw [q40]; decide
          have n3 : ¬ o = nI 3 := by rw [q40]; decide
          have n4 : ¬ o = nI 4 := by rw [q40]; decide
          have n6 : ¬ o = nI 6 := by rw [q40]; decide
          have n7 : ¬ o = nI 7 := by rw [q40]; decide
          have n8 : ¬ o = nI 8 := by rw [q40]; decide
          have n9 : ¬ o = nI 9 := by rw [q40]; decide
          have n10 : ¬ o = nI 10 := by rw [q40]; decide
          exact ⟨by first | exact am_s1 (by simp_all only [mz_may, true_and, false_and, and_true, and_false, or_false, false_or, not_true_eq_false, not_false_eq_true]) | exact am_s0 (by simp_all only [mz_may, true_and, false_and, and_true, and_false, or_false, false_or, not_true_eq_false, not_false_eq_true]), rfl, rfl⟩
        · refine V.iload (j := 4) rfl dX8_mayBe_171 ?_
          refine V.bipush (v := nI 64) (by decide) dX8_mayBe_173 ?_
          refine V.icmp_ge (tgt := 182) dX8_mayBe_175 (by decide) (fun c46 => ?_) (fun c46 => ?_)
          · refine V.iconst (v := nI 0) (by decide) dX8_mayBe_182 ?_
            refine V.rz dX8_mayBe_183 rfl (by decide) ?_
            have ne := And.intro (nI_ne11 5 0 (by decide)) trivial
            have n0 : ¬ o = nI 0 := by rw [q40]; decide
            have n1 : ¬ o = nI 1 := by rw [q40]; decide
            have n2 : ¬ o = nI 2 := by rw [q40]; decide
            have n3 : ¬ o = nI 3 := by rw [q40]; decide
            have n4 : ¬ o = nI 4 := by rw [q40]; decide
            have n6 : ¬ o = nI 6 := by rw [q40]; decide
            have n7 : ¬ o = nI 7 := by rw [q40]; decide
            have n8 : ¬ o = nI 8 := by rw [q40]; decide
            have n9 : ¬ o = nI 9 := by rw [q40]; decide
            have n10 : ¬ o = nI 10 := by rw [q40]; decide
            exact ⟨by first | exact am_s1 (by simp_all only [mz_may, true_and, false_and, and_true, and_false, or_false, false_or, not_true_eq_false, not_false_eq_true]) | exact am_s0 (by simp_all only [mz_may, true_and, false_and, and_true, and_false, or_false, false_or, not_true_eq_false, not_false_eq_true]), rfl, rfl⟩
          · refine V.iconst (v := nI 1) (by decide) dX8_mayBe_178 ?_
            refine V.goto (tgt := 183) dX8_mayBe_179 (by decide) ?_
            refine V.rz dX8_mayBe_183 rfl (by decide) ?_
            have ne := And.intro (nI_ne11 5 0 (by decide)) trivial
            have n0 : ¬ o = nI 0 := by rw [q40]; decide
            have n1 : ¬ o = nI 1 := by rw [q40]; decide
            have n2 : ¬ o = nI 2 := by rw [q40]; decide
            have n3 : ¬ o = nI 3 := by rw [q40]; decide
            have n4 : ¬ o = nI 4 := by rw [q40]; decide
            have n6 : ¬ o = nI 6 := by rw [q40]; decide
            have n7 : ¬ o = nI 7 := by rw [q40]; decide
            have n8 : ¬ o = nI 8 := by rw [q40]; decide
            have n9 : ¬ o = nI 9 := by rw [q40]; decide
            have n10 : ¬ o = nI 10 := by rw [q40]; decide
            exact ⟨by first | exact am_s1 (by simp_all only [mz_may, true_and, false_and, and_true, and_false, or_false, false_or, not_true_eq_false, not_false_eq_true]) | exact am_s0 (by simp_all only [mz_may, true_and, false_and, and_true, and_false, or_false, false_or, not_true_eq_false, not_false_eq_true]), rfl, rfl⟩
      · refine V.st (st' := [.int (nI 0)]) (by rw [bI_f b43]; rfl) ?_
        refine V.if_eq (tgt := 182) dX8_mayBe_163 (by decide) (fun _ => ?_) (fun z => absurd z (by decide))
        refine V.iconst (v := nI 0) (by decide) dX8_mayBe_182 ?_
        refine V.rz dX8_mayBe_183 rfl (by decide) ?_
        have ne := And.intro (nI_ne11 5 0 (by decide)) trivial
        have n0 : ¬ o = nI 0 := by rw [q40]; decide
        have n1 : ¬ o = nI 1 := by rw [q40]; decide
        have n2 : ¬ o = nI 2 := by rw [q40]; decide
        have n3 : ¬ o = nI 3 := by rw [q40]; decide
        have n4 : ¬ o = nI 4 := by rw [q40]; decide
        have n6 : ¬ o = nI 6 := by rw [q40]; decide
        have n7 : ¬ o = nI 7 := by rw [q40]; decide
        have n8 : ¬ o = nI 8 := by rw [q40]; decide
        have n9 : ¬ o = nI 9 := by rw [q40]; decide
        have n10 : ¬ o = nI 10 := by rw [q40]; decide
        exact ⟨by first | exact am_s1 (by simp_all only [mz_may, true_and, false_and, and_true, and_false, or_false, false_or, not_true_eq_false, not_false_eq_true]) | exact am_s0 (by simp_all only [mz_may, true_and, false_and, and_true, and_false, or_false, false_or, not_true_eq_false, not_false_eq_true]), rfl, rfl⟩
    · refine V.st (st' := [.int (nI 0)]) (by rw [bI_f b41]; rfl) ?_
      refine V.if_eq (tgt := 182) dX8_mayBe_154 (by decide) (fun _ => ?_) (fun z => absurd z (by decide))
      refine V.iconst (v := nI 0) (by decide) dX8_mayBe_182 ?_
      refine V.rz dX8_mayBe_183 rfl (by decide) ?_
      have ne := And.intro (nI_ne11 5 0 (by decide)) trivial
      have n0 : ¬ o = nI 0 := by rw [q40]; decide
      have n1 : ¬ o = nI 1 := by rw [q40]; decide
      have n2 : ¬ o = nI 2 := by rw [q40]; decide
      have n3 : ¬ o = nI 3 := by rw [q40]; decide
      have n4 : ¬ o = nI 4 := by rw [q40]; decide
      have n6 : ¬ o = nI 6 := by rw [q40]; decide
      have n7 : ¬ o = nI 7 := by rw [q40]; decide
      have n8 : ¬ o = nI 8 := by rw [q40]; decide
      have n9 : ¬ o = nI 9 := by rw [q40]; decide
      have n10 : ¬ o = nI 10 := by rw [q40]; decide
      exact ⟨by first | exact am_s1 (by simp_all only [mz_may, true_and, false_and, and_true, and_false, or_false, false_or, not_true_eq_false, not_false_eq_true]) | exact am_s0 (by simp_all only [mz_may, true_and, false_and, and_true, and_false, or_false, false_or, not_true_eq_false, not_false_eq_true]), rfl, rfl⟩
  by_cases q49 : o = nI 6
  · refine V.st (st' := [.int (nI 6)]) (by rw [q49]) ?_
    refine V.tableIn (tgt := 149) dX8_mayBe_1 (by decide) (by decide) rfl (by decide) ?_
    refine V.aload_n (j := 0) rfl dX8_mayBe_149 ?_
    refine V.iload_n (j := 2) rfl dX8_mayBe_150 ?_
    refine V.cV (As := [.int a]) (st := []) dX8_mayBe_151 sX8_83 iX8_isValue lX8_isValue rfl rfl (md_isV _ _ nv hn _) ⟨by decide, by decide⟩ (Nat.le_of_ble_eq_true rfl) rfl (fun r I' A' hq => ?_)
    obtain ⟨rfl, rfl, rfl⟩ := hq
    by_cases b50 : mz_isV (nI nv) (a)
    · refine V.st (st' := [.int (nI 1)]) (by rw [bI_t b50]; rfl) ?_
      refine V.if_eq (tgt := 182) dX8_mayBe_154 (by decide) (fun z => absurd z (by decide)) (fun _ => ?_)
      refine V.aload_n (j := 0) rfl dX8_mayBe_157 ?_
      refine V.iload_n (j := 3) rfl dX8_mayBe_158 ?_
      refine V.iconst (v := nI 1) (by decide) dX8_mayBe_159 ?_
      refine V.cV (As := [.int b, .int (nI 1)]) (st := []) dX8_mayBe_160 sX8_87 iX8_isOf lX8_isOf rfl rfl (md_isOf _ _ nv hn hv _ _) ⟨by decide, by decide⟩ (Nat.le_of_ble_eq_true rfl) rfl (fun r I' A' hq => ?_)
      obtain ⟨rfl, rfl, rfl⟩ := hq
      by_cases b52 : mz_isO nv (A m_classes) (b) (nI 1)
      · refine V.st (st' := [.int (nI 1)]) (by rw [bI_t b52]; rfl) ?_
        refine V.if_eq (tgt := 182) dX8_mayBe_163 (by decide) (fun z => absurd z (by decide)) (fun _ => ?_)
        refine V.iload (j := 4) rfl dX8_mayBe_166 ?_
        refine V.if_lt (tgt := 182) dX8_mayBe_168 (by decide) (fun c54 => ?_) (fun c54 => ?_)
        · refine V.iconst (v := nI 0) (by decide) dX8_mayBe_182 ?_
          refine V.rz dX8_mayBe_183 rfl (by decide) ?_
          have ne := And.intro (nI_ne11 6 0 (by decide)) trivial
          have n0 : ¬ o = nI 0 := by rw [q49]; decide
          have n1 : ¬ o = nI 1 := by rw [q49]; decide
          have n2 : ¬ o = nI 2 := by rw [q49]; decide
          have n3 : ¬ o = nI 3 := by rw [q49]; decide
          have n4 : ¬ o = nI 4 := by rw [q49]; decide
          have n5 : ¬ o = nI 5 := by rw [q49]; decide
          have n7 : ¬ o = nI 7 := by rw [q49]; decide
          have n8 : ¬ o = nI 8 := by rw [q49]; decide
          have n9 : ¬ o = nI 9 := by rw [q49]; decide
          have n10 : ¬ o = nI 10 := by rw [q49]; decide
          exact ⟨by first | exact am_s1 (by simp_all only [mz_may, true_and, false_and, and_true, and_false, or_false, false_or, not_true_eq_false, not_false_eq_true]) | exact am_s0 (by simp_all only [mz_may, true_and, false_and, and_true, and_false, or_false, false_or, not_true_eq_false, not_false_eq_true]), rfl, rfl⟩
        · refine V.iload (j := 4) rfl dX8_mayBe_171 ?_
          refine V.bipush (v := nI 64) (by decide) dX8_mayBe_173 ?_
          refine V.icmp_ge (tgt := 182) dX8_mayBe_175 (by decide) (fun c55 => ?_) (fun c55 => ?_)
          · refine V.iconst (v := nI 0) (by decide) dX8_mayBe_182 ?_
            refine V.rz dX8_mayBe_183 rfl (by decide) ?_
            have ne := And.intro (nI_ne11 6 0 (by decide)) trivial
            have n0 : ¬ o = nI 0 := by rw [q49]; decide
            have n1 : ¬ o = nI 1 := by rw [q49]; decide
            have n2 : ¬ o = nI 2 := by rw [q49]; decide
            have n3 : ¬ o = nI 3 := by rw [q49]; decide
            have n4 : ¬ o = nI 4 := by rw [q49]; decide
            have n5 : ¬ o = nI 5 := by rw [q49]; decide
            have n7 : ¬ o = nI 7 := by rw [q49]; decide
            have n8 : ¬ o = nI 8 := by rw [q49]; decide
            have n9 : ¬ o = nI 9 := by rw [q49]; decide
            have n10 : ¬ o = nI 10 := by rw [q49]; decide
            exact ⟨by first | exact am_s1 (by simp_all only [mz_may, true_and, false_and, and_true, and_false, or_false, false_or, not_true_eq_false, not_false_eq_true]) | exact am_s0 (by simp_all only [mz_may, true_and, false_and, and_true, and_false, or_false, false_or, not_true_eq_false, not_false_eq_true]), rfl, rfl⟩
          · refine V.iconst (v := nI 1) (by decide) dX8_mayBe_178 ?_
            refine V.goto (tgt := 183) dX8_mayBe_179 (by decide) ?_
            refine V.rz dX8_mayBe_183 rfl (by decide) ?_
            have ne := And.intro (nI_ne11 6 0 (by decide)) trivial
            have n0 : ¬ o = nI 0 := by rw [q49]; decide
            have n1 : ¬ o = nI 1 := by rw [q49]; decide
            have n2 : ¬ o = nI 2 := by rw [q49]; decide
            have n3 : ¬ o = nI 3 := by rw [q49]; decide
            have n4 : ¬ o = nI 4 := by rw [q49]; decide
            have n5 : ¬ o = nI 5 := by rw [q49]; decide
            have n7 : ¬ o = nI 7 := by rw [q49]; decide
            have n8 : ¬ o = nI 8 := by rw [q49]; decide
            have n9 : ¬ o = nI 9 := by rw [q49]; decide
            have n10 : ¬ o = nI 10 := by rw [q49]; decide
            exact ⟨by first | exact am_s1 (by simp_all only [mz_may, true_and, false_and, and_true, and_false, or_false, false_or, not_true_eq_false, not_false_eq_true]) | exact am_s0 (by simp_all only [mz_may, true_and, false_and, and_true, and_false, or_false, false_or, not_true_eq_false, not_false_eq_true]), rfl, rfl⟩
      · refine V.st (st' := [.int (nI 0)]) (by rw [bI_f b52]; rfl) ?_
        refine V.if_eq (tgt := 182) dX8_mayBe_163 (by decide) (fun _ => ?_) (fun z => absurd z (by decide))
        refine V.iconst (v := nI 0) (by decide) dX8_mayBe_182 ?_
        refine V.rz dX8_mayBe_183 rfl (by decide) ?_
        have ne := And.intro (nI_ne11 6 0 (by decide)) trivial
        have n0 : ¬ o = nI 0 := by rw [q49]; decide
        have n1 : ¬ o = nI 1 := by rw [q49]; decide
        have n2 : ¬ o = nI 2 := by rw [q49]; decide
        have n3 : ¬ o = nI 3 := by rw [q49]; decide
        have n4 : ¬ o = nI 4 := by rw [q49]; decide
        have n5 : ¬ o = nI 5 := by rw [q49]; decide
        have n7 : ¬ o = nI 7 := by rw [q49]; decide
        have n8 : ¬ o = nI 8 := by rw [q49]; decide
        have n9 : ¬ o = nI 9 := by rw [q49]; decide
        have n10 : ¬ o = nI 10 := by rw [q49]; decide
        exact ⟨by first | exact am_s1 (by simp_all only [mz_may, true_and, false_and, and_true, and_false, or_false, false_or, not_true_eq_false, not_false_eq_true]) | exact am_s0 (by simp_all only [mz_may, true_and, false_and, and_true, and_false, or_false, false_or, not_true_eq_false, not_false_eq_true]), rfl, rfl⟩
    · refine V.st (st' := [.int (nI 0)]) (by rw [bI_f b50]; rfl) ?_
      refine V.if_eq (tgt := 182) dX8_mayBe_154 (by decide) (fun _ => ?_) (fun z => absurd z (by decide))
      refine V.iconst (v := nI 0) (by decide) dX8_mayBe_182 ?_
      refine V.rz dX8_mayBe_183 rfl (by decide) ?_
      have ne := And.intro (nI_ne11 6 0 (by decide)) trivial
      have n0 : ¬ o = nI 0 := by rw [q49]; decide
      have n1 : ¬ o = nI 1 := by rw [q49]; decide
      have n2 : ¬ o = nI 2 := by rw [q49]; decide
      have n3 : ¬ o = nI 3 := by rw [q49]; decide
      have n4 : ¬ o = nI 4 := by rw [q49]; decide
      have n5 : ¬ o = nI 5 := by rw [q49]; decide
      have n7 : ¬ o = nI 7 := by rw [q49]; decide
      have n8 : ¬ o = nI 8 := by rw [q49]; decide
      have n9 : ¬ o = nI 9 := by rw [q49]; decide
      have n10 : ¬ o = nI 10 := by rw [q49]; decide
      exact ⟨by first | exact am_s1 (by simp_all only [mz_may, true_and, false_and, and_true, and_false, or_false, false_or, not_true_eq_false, not_false_eq_true]) | exact am_s0 (by simp_all only [mz_may, true_and, false_and, and_true, and_false, or_false, false_or, not_true_eq_false, not_false_eq_true]), rfl, rfl⟩
  by_cases q58 : o = nI 7
  · refine V.st (st' := [.int (nI 7)]) (by rw [q58]) ?_
    refine V.tableIn (tgt := 184) dX8_mayBe_1 (by decide) (by decide) rfl (by decide) ?_
    refine V.aload_n (j := 0) rfl dX8_mayBe_184 ?_
    refine V.iload_n (j := 2) rfl dX8_mayBe_185 ?_
    refine V.cV (As := [.int a]) (st := []) dX8_mayBe_186 sX8_83 iX8_isValue lX8_isValue rfl rfl (md_isV _ _ nv hn _) ⟨by decide, by decide⟩ (Nat.le_of_ble_eq_true rfl) rfl (fun r I' A' hq => ?_)
    obtain ⟨rfl, rfl, rfl⟩ := hq
    by_cases b59 : mz_isV (nI nv) (a)
    · refine V.st (st' := [.int (nI 1)]) (by rw [bI_t b59]; rfl) ?_
      refine V.if_eq (tgt := 216) dX8_mayBe_189 (by decide) (fun z => absurd z (by decide)) (fun _ => ?_)
      refine V.aload_n (j := 0) rfl dX8_mayBe_192 ?_
      refine V.iload_n (j := 3) rfl dX8_mayBe_193 ?_
      refine V.cV (As := [.int b]) (st := []) dX8_mayBe_194 sX8_83 iX8_isValue lX8_isValue rfl rfl (md_isV _ _ nv hn _) ⟨by decide, by decide⟩ (Nat.le_of_ble_eq_true rfl) rfl (fun r I' A' hq => ?_)
      obtain ⟨rfl, rfl, rfl⟩ := hq
      by_cases b61 : mz_isV (nI nv) (b)
      · refine V.st (st' := [.int (nI 1)]) (by rw [bI_t b61]; rfl) ?_
        refine V.if_eq (tgt := 216) dX8_mayBe_197 (by decide) (fun z => absurd z (by decide)) (fun _ => ?_)
        refine V.iload (j := 4) rfl dX8_mayBe_200 ?_
        refine V.if_lt (tgt := 216) dX8_mayBe_202 (by decide) (fun c63 => ?_) (fun c63 => ?_)
        · refine V.iconst (v := nI 0) (by decide) dX8_mayBe_216 ?_
          refine V.rz dX8_mayBe_217 rfl (by decide) ?_
          have ne := And.intro (nI_ne11 7 0 (by decide)) trivial
          have n0 : ¬ o = nI 0 := by rw [q58]; decide
          have n1 : ¬ o = nI 1 := by rw [q58]; decide
          have n2 : ¬ o = nI 2 := by rw [q58]; decide
          have n3 : ¬ o = nI 3 := by rw [q58]; decide
          have n4 : ¬ o = nI 4 := by rw [q58]; decide
          have n5 : ¬ o = nI 5 := by rw [q58]; decide
          have n6 : ¬ o = nI 6 := by rw [q58]; decide
          have n8 : ¬ o = nI 8 := by rw [q58]; decide
          have n9 : ¬ o = nI 9 := by rw [q58]; decide
          have n10 : ¬ o = nI 10 := by rw [q58]; decide
          exact ⟨by first | exact am_s1 (by simp_all only [mz_may, true_and, false_and, and_true, and_false, or_false, false_or, not_true_eq_false, not_false_eq_true]) | exact am_s0 (by simp_all only [mz_may, true_and, false_and, and_true, and_false, or_false, false_or, not_true_eq_false, not_false_eq_true]), rfl, rfl⟩
        · refine V.iload (j := 4) rfl dX8_mayBe_205 ?_
          refine V.bipush (v := nI 60) (by decide) dX8_mayBe_207 ?_
          refine V.icmp_gt (tgt := 216) dX8_mayBe_209 (by decide) (fun c64 => ?_) (fun c64 => ?_)
          · refine V.iconst (v := nI 0) (by decide) dX8_mayBe_216 ?_
            refine V.rz dX8_mayBe_217 rfl (by decide) ?_
            have ne := And.intro (nI_ne11 7 0 (by decide)) trivial
            have n0 : ¬ o = nI 0 := by rw [q58]; decide
            have n1 : ¬ o = nI 1 := by rw [q58]; decide
            have n2 : ¬ o = nI 2 := by rw [q58]; decide
            have n3 : ¬ o = nI 3 := by rw [q58]; decide
            have n4 : ¬ o = nI 4 := by rw [q58]; decide
            have n5 : ¬ o = nI 5 := by rw [q58]; decide
            have n6 : ¬ o = nI 6 := by rw [q58]; decide
            have n8 : ¬ o = nI 8 := by rw [q58]; decide
            have n9 : ¬ o = nI 9 := by rw [q58]; decide
            have n10 : ¬ o = nI 10 := by rw [q58]; decide
            exact ⟨by first | exact am_s1 (by simp_all only [mz_may, true_and, false_and, and_true, and_false, or_false, false_or, not_true_eq_false, not_false_eq_true]) | exact am_s0 (by simp_all only [mz_may, true_and, false_and, and_true, and_false, or_false, false_or, not_true_eq_false, not_false_eq_true]), rfl, rfl⟩
          · refine V.iconst (v := nI 1) (by decide) dX8_mayBe_212 ?_
            refine V.goto (tgt := 217) dX8_mayBe_213 (by decide) ?_
            refine V.rz dX8_mayBe_217 rfl (by decide) ?_
            have ne := And.intro (nI_ne11 7 0 (by decide)) trivial
            have n0 : ¬ o = nI 0 := by rw [q58]; decide
            have n1 : ¬ o = nI 1 := by rw [q58]; decide
            have n2 : ¬ o = nI 2 := by rw [q58]; decide
            have n3 : ¬ o = nI 3 := by rw [q58]; decide
            have n4 : ¬ o = nI 4 := by rw [q58]; decide
            have n5 : ¬ o = nI 5 := by rw [q58]; decide
            have n6 : ¬ o = nI 6 := by rw [q58]; decide
            have n8 : ¬ o = nI 8 := by rw [q58]; decide
            have n9 : ¬ o = nI 9 := by rw [q58]; decide
            have n10 : ¬ o = nI 10 := by rw [q58]; decide
            exact ⟨by first | exact am_s1 (by simp_all only [mz_may, true_and, false_and, and_true, and_false, or_false, false_or, not_true_eq_false, not_false_eq_true]) | exact am_s0 (by simp_all only [mz_may, true_and, false_and, and_true, and_false, or_false, false_or, not_true_eq_false, not_false_eq_true]), rfl, rfl⟩
      · refine V.st (st' := [.int (nI 0)]) (by rw [bI_f b61]; rfl) ?_
        refine V.if_eq (tgt := 216) dX8_mayBe_197 (by decide) (fun _ => ?_) (fun z => absurd z (by decide))
        refine V.iconst (v := nI 0) (by decide) dX8_mayBe_216 ?_
        refine V.rz dX8_mayBe_217 rfl (by decide) ?_
        have ne := And.intro (nI_ne11 7 0 (by decide)) trivial
        have n0 : ¬ o = nI 0 := by rw [q58]; decide
        have n1 : ¬ o = nI 1 := by rw [q58]; decide
        have n2 : ¬ o = nI 2 := by rw [q58]; decide
        have n3 : ¬ o = nI 3 := by rw [q58]; decide
        have n4 : ¬ o = nI 4 := by rw [q58]; decide
        have n5 : ¬ o = nI 5 := by rw [q58]; decide
        have n6 : ¬ o = nI 6 := by rw [q58]; decide
        have n8 : ¬ o = nI 8 := by rw [q58]; decide
        have n9 : ¬ o = nI 9 := by rw [q58]; decide
        have n10 : ¬ o = nI 10 := by rw [q58]; decide
        exact ⟨by first | exact am_s1 (by simp_all only [mz_may, true_and, false_and, and_true, and_false, or_false, false_or, not_true_eq_false, not_false_eq_true]) | exact am_s0 (by simp_all only [mz_may, true_and, false_and, and_true, and_false, or_false, false_or, not_true_eq_false, not_false_eq_true]), rfl, rfl⟩
    · refine V.st (st' := [.int (nI 0)]) (by rw [bI_f b59]; rfl) ?_
      refine V.if_eq (tgt := 216) dX8_mayBe_189 (by decide) (fun _ => ?_) (fun z => absurd z (by decide))
      refine V.iconst (v := nI 0) (by decide) dX8_mayBe_216 ?_
      refine V.rz dX8_mayBe_217 rfl (by decide) ?_
      have ne := And.intro (nI_ne11 7 0 (by decide)) trivial
      have n0 : ¬ o = nI 0 := by rw [q58]; decide
      have n1 : ¬ o = nI 1 := by rw [q58]; decide
      have n2 : ¬ o = nI 2 := by rw [q58]; decide
      have n3 : ¬ o = nI 3 := by rw [q58]; decide
      have n4 : ¬ o = nI 4 := by rw [q58]; decide
      have n5 : ¬ o = nI 5 := by rw [q58]; decide
      have n6 : ¬ o = nI 6 := by rw [q58]; decide
      have n8 : ¬ o = nI 8 := by rw [q58]; decide
      have n9 : ¬ o = nI 9 := by rw [q58]; decide
      have n10 : ¬ o = nI 10 := by rw [q58]; decide
      exact ⟨by first | exact am_s1 (by simp_all only [mz_may, true_and, false_and, and_true, and_false, or_false, false_or, not_true_eq_false, not_false_eq_true]) | exact am_s0 (by simp_all only [mz_may, true_and, false_and, and_true, and_false, or_false, false_or, not_true_eq_false, not_false_eq_true]), rfl, rfl⟩
  by_cases q67 : o = nI 8
  · refine V.st (st' := [.int (nI 8)]) (by rw [q67]) ?_
    refine V.tableIn (tgt := 218) dX8_mayBe_1 (by decide) (by decide) rfl (by decide) ?_
    refine V.iload_n (j := 2) rfl dX8_mayBe_218 ?_
    refine V.if_lt (tgt := 232) dX8_mayBe_219 (by decide) (fun c68 => ?_) (fun c68 => ?_)
    · refine V.iconst (v := nI 0) (by decide) dX8_mayBe_232 ?_
      refine V.rz dX8_mayBe_233 rfl (by decide) ?_
      have ne := And.intro (nI_ne11 8 0 (by decide)) trivial
      have n0 : ¬ o = nI 0 := by rw [q67]; decide
      have n1 : ¬ o = nI 1 := by rw [q67]; decide
      have n2 : ¬ o = nI 2 := by rw [q67]; decide
      have n3 : ¬ o = nI 3 := by rw [q67]; decide
      have n4 : ¬ o = nI 4 := by rw [q67]; decide
      have n5 : ¬ o = nI 5 := by rw [q67]; decide
      have n6 : ¬ o = nI 6 := by rw [q67]; decide
      have n7 : ¬ o = nI 7 := by rw [q67]; decide
      have n9 : ¬ o = nI 9 := by rw [q67]; decide
      have n10 : ¬ o = nI 10 := by rw [q67]; decide
      exact ⟨by first | exact am_s1 (by simp_all only [mz_may, true_and, false_and, and_true, and_false, or_false, false_or, not_true_eq_false, not_false_eq_true]) | exact am_s0 (by simp_all only [mz_may, true_and, false_and, and_true, and_false, or_false, false_or, not_true_eq_false, not_false_eq_true]), rfl, rfl⟩
    · refine V.iload_n (j := 2) rfl dX8_mayBe_222 ?_
      refine V.bipush (v := nI 60) (by decide) dX8_mayBe_223 ?_
      refine V.icmp_gt (tgt := 232) dX8_mayBe_225 (by decide) (fun c69 => ?_) (fun c69 => ?_)
      · refine V.iconst (v := nI 0) (by decide) dX8_mayBe_232 ?_
        refine V.rz dX8_mayBe_233 rfl (by decide) ?_
        have ne := And.intro (nI_ne11 8 0 (by decide)) trivial
        have n0 : ¬ o = nI 0 := by rw [q67]; decide
        have n1 : ¬ o = nI 1 := by rw [q67]; decide
        have n2 : ¬ o = nI 2 := by rw [q67]; decide
        have n3 : ¬ o = nI 3 := by rw [q67]; decide
        have n4 : ¬ o = nI 4 := by rw [q67]; decide
        have n5 : ¬ o = nI 5 := by rw [q67]; decide
        have n6 : ¬ o = nI 6 := by rw [q67]; decide
        have n7 : ¬ o = nI 7 := by rw [q67]; decide
        have n9 : ¬ o = nI 9 := by rw [q67]; decide
        have n10 : ¬ o = nI 10 := by rw [q67]; decide
        exact ⟨by first | exact am_s1 (by simp_all only [mz_may, true_and, false_and, and_true, and_false, or_false, false_or, not_true_eq_false, not_false_eq_true]) | exact am_s0 (by simp_all only [mz_may, true_and, false_and, and_true, and_false, or_false, false_or, not_true_eq_false, not_false_eq_true]), rfl, rfl⟩
      · refine V.iconst (v := nI 1) (by decide) dX8_mayBe_228 ?_
        refine V.goto (tgt := 233) dX8_mayBe_229 (by decide) ?_
        refine V.rz dX8_mayBe_233 rfl (by decide) ?_
        have ne := And.intro (nI_ne11 8 0 (by decide)) trivial
        have n0 : ¬ o = nI 0 := by rw [q67]; decide
        have n1 : ¬ o = nI 1 := by rw [q67]; decide
        have n2 : ¬ o = nI 2 := by rw [q67]; decide
        have n3 : ¬ o = nI 3 := by rw [q67]; decide
        have n4 : ¬ o = nI 4 := by rw [q67]; decide
        have n5 : ¬ o = nI 5 := by rw [q67]; decide
        have n6 : ¬ o = nI 6 := by rw [q67]; decide
        have n7 : ¬ o = nI 7 := by rw [q67]; decide
        have n9 : ¬ o = nI 9 := by rw [q67]; decide
        have n10 : ¬ o = nI 10 := by rw [q67]; decide
        exact ⟨by first | exact am_s1 (by simp_all only [mz_may, true_and, false_and, and_true, and_false, or_false, false_or, not_true_eq_false, not_false_eq_true]) | exact am_s0 (by simp_all only [mz_may, true_and, false_and, and_true, and_false, or_false, false_or, not_true_eq_false, not_false_eq_true]), rfl, rfl⟩
  by_cases q70 : o = nI 9
  · refine V.st (st' := [.int (nI 9)]) (by rw [q70]) ?_
    refine V.tableIn (tgt := 56) dX8_mayBe_1 (by decide) (by decide) rfl (by decide) ?_
    refine V.aload_n (j := 0) rfl dX8_mayBe_56 ?_
    refine V.iload_n (j := 2) rfl dX8_mayBe_57 ?_
    refine V.cV (As := [.int a]) (st := []) dX8_mayBe_58 sX8_83 iX8_isValue lX8_isValue rfl rfl (md_isV _ _ nv hn _) ⟨by decide, by decide⟩ (Nat.le_of_ble_eq_true rfl) rfl (fun r I' A' hq => ?_)
    obtain ⟨rfl, rfl, rfl⟩ := hq
    by_cases b71 : mz_isV (nI nv) (a)
    · refine V.st (st' := [.int (nI 1)]) (by rw [bI_t b71]; rfl) ?_
      refine V.rz dX8_mayBe_61 rfl (by decide) ?_
      have ne := And.intro (nI_ne11 9 0 (by decide)) trivial
      have n0 : ¬ o = nI 0 := by rw [q70]; decide
      have n1 : ¬ o = nI 1 := by rw [q70]; decide
      have n2 : ¬ o = nI 2 := by rw [q70]; decide
      have n3 : ¬ o = nI 3 := by rw [q70]; decide
      have n4 : ¬ o = nI 4 := by rw [q70]; decide
      have n5 : ¬ o = nI 5 := by rw [q70]; decide
      have n6 : ¬ o = nI 6 := by rw [q70]; decide
      have n7 : ¬ o = nI 7 := by rw [q70]; decide
      have n8 : ¬ o = nI 8 := by rw [q70]; decide
      have n10 : ¬ o = nI 10 := by rw [q70]; decide
      exact ⟨by first | exact am_s1 (by simp_all only [mz_may, true_and, false_and, and_true, and_false, or_false, false_or, not_true_eq_false, not_false_eq_true]) | exact am_s0 (by simp_all only [mz_may, true_and, false_and, and_true, and_false, or_false, false_or, not_true_eq_false, not_false_eq_true]), rfl, rfl⟩
    · refine V.st (st' := [.int (nI 0)]) (by rw [bI_f b71]; rfl) ?_
      refine V.rz dX8_mayBe_61 rfl (by decide) ?_
      have ne := And.intro (nI_ne11 9 0 (by decide)) trivial
      have n0 : ¬ o = nI 0 := by rw [q70]; decide
      have n1 : ¬ o = nI 1 := by rw [q70]; decide
      have n2 : ¬ o = nI 2 := by rw [q70]; decide
      have n3 : ¬ o = nI 3 := by rw [q70]; decide
      have n4 : ¬ o = nI 4 := by rw [q70]; decide
      have n5 : ¬ o = nI 5 := by rw [q70]; decide
      have n6 : ¬ o = nI 6 := by rw [q70]; decide
      have n7 : ¬ o = nI 7 := by rw [q70]; decide
      have n8 : ¬ o = nI 8 := by rw [q70]; decide
      have n10 : ¬ o = nI 10 := by rw [q70]; decide
      exact ⟨by first | exact am_s1 (by simp_all only [mz_may, true_and, false_and, and_true, and_false, or_false, false_or, not_true_eq_false, not_false_eq_true]) | exact am_s0 (by simp_all only [mz_may, true_and, false_and, and_true, and_false, or_false, false_or, not_true_eq_false, not_false_eq_true]), rfl, rfl⟩
  have tq1 : ¬ (o).toInt = 0 := lv_neT q1 (by decide)
  have tq3 : ¬ (o).toInt = 1 := lv_neT q3 (by decide)
  have tq10 : ¬ (o).toInt = 2 := lv_neT q10 (by decide)
  have tq20 : ¬ (o).toInt = 3 := lv_neT q20 (by decide)
  have tq30 : ¬ (o).toInt = 4 := lv_neT q30 (by decide)
  have tq40 : ¬ (o).toInt = 5 := lv_neT q40 (by decide)
  have tq49 : ¬ (o).toInt = 6 := lv_neT q49 (by decide)
  have tq58 : ¬ (o).toInt = 7 := lv_neT q58 (by decide)
  have tq67 : ¬ (o).toInt = 8 := lv_neT q67 (by decide)
  have tq70 : ¬ (o).toInt = 9 := lv_neT q70 (by decide)
  refine V.tableOut (tgt := 234) dX8_mayBe_1 (by omega) (by decide) ?_
  refine V.iload_n (j := 1) rfl dX8_mayBe_234 ?_
  refine V.bipush (v := nI 10) (by decide) dX8_mayBe_235 ?_
  refine V.icmp_ne (tgt := 244) dX8_mayBe_237 (by decide) (fun c72 => ?_) (fun c72 => ?_)
  · refine V.iconst (v := nI 0) (by decide) dX8_mayBe_244 ?_
    refine V.rz dX8_mayBe_245 rfl (by decide) ?_
    exact ⟨by first | exact am_s1 (by simp_all only [mz_may, true_and, false_and, and_true, and_false, or_false, false_or, or_true, not_true_eq_false, not_false_eq_true]) | exact am_s0 (by simp_all only [mz_may, true_and, false_and, and_true, and_false, or_false, false_or, or_true, not_true_eq_false, not_false_eq_true]; try simp), rfl, rfl⟩
  · refine V.iconst (v := nI 1) (by decide) dX8_mayBe_240 ?_
    refine V.goto (tgt := 245) dX8_mayBe_241 (by decide) ?_
    refine V.rz dX8_mayBe_245 rfl (by decide) ?_
    exact ⟨by first | exact am_s1 (by simp_all only [mz_may, true_and, false_and, and_true, and_false, or_false, false_or, or_true, not_true_eq_false, not_false_eq_true]) | exact am_s0 (by simp_all only [mz_may, true_and, false_and, and_true, and_false, or_false, false_or, or_true, not_true_eq_false, not_false_eq_true]; try simp), rfl, rfl⟩
def mz_pOK (nv ns : Nat) (cl : Nat → Int32) (o a b c : Int32) : Prop := mz_may nv cl o a b c ∧ ¬ ns = 60
set_option maxRecDepth 100000 in
set_option maxHeartbeats 4000000 in
theorem md_put {G : am_G} (I A : Nat → Nat → Int32) (nv ns : Nat) (hn : I mM 0 = nI nv) (hv : nv ≤ 24) (hs : I mM 2 = nI ns) (hs2 : ns ≤ 60) (o a b c : Int32) : Cm G MX8_put 3 67 [.ref mM, .int o, .int a, .int b, .int c] I A (fun r I' A' => (mz_pOK nv ns (A m_classes) o a b c → r = some (.int (nI ns)) ∧ upI I mM 2 (nI (ns + 1)) = I' ∧ upA (upA (upA (upA A m_ops (upd (A m_ops) ns o)) m_first (upd (A m_first) ns a)) m_second (upd (A m_second) ns b)) m_third (upd (A m_third) ns c) = A') ∧ (¬ mz_pOK nv ns (A m_classes) o a b c → r = some (.int (-1)) ∧ I = I' ∧ A = A')) := by
  refine Cm.of (by decide) (Nat.le_of_ble_eq_true rfl) rfl ?_
  show V G MX8_put (am_R 3 67 0 0) _ 0 0 0 [(0, .ref mM), (1, .int o), (2, .int a), (3, .int b), (4, .int c)] [] (hp I A)
  refine V.aload_n (j := 0) rfl dX8_put_0 ?_
  refine V.iload_n (j := 1) rfl dX8_put_1 ?_
  refine V.iload_n (j := 2) rfl dX8_put_2 ?_
  refine V.iload_n (j := 3) rfl dX8_put_3 ?_
  refine V.iload (j := 4) rfl dX8_put_4 ?_
  refine V.cV (As := [.int o, .int a, .int b, .int c]) (st := []) dX8_put_6 sX8_91 iX8_mayBe lX8_mayBe rfl rfl (md_mayBe _ _ nv hn hv _ _ _ _) ⟨by decide, by decide⟩ (Nat.le_of_ble_eq_true rfl) rfl (fun r I' A' hq => ?_)
  obtain ⟨rfl, rfl, rfl⟩ := hq
  by_cases b1 : mz_may nv (A m_classes) o a b c
  · refine V.st (st' := [.int (nI 1)]) (by rw [bI_t b1]; rfl) ?_
    refine V.if_eq (tgt := 21) dX8_put_9 (by decide) (fun z => absurd z (by decide)) (fun _ => ?_)
    refine V.aload_n (j := 0) rfl dX8_put_12 ?_
    refine V.geti (v := nI ns) dX8_put_13 fX8_95 rfl rfl hs ?_
    refine V.bipush (v := nI 60) (by decide) dX8_put_16 ?_
    refine V.icmp_neN (tgt := 23) dX8_put_18 (by decide) (by omega) (by omega) (fun c3 => ?_) (fun c3 => ?_)
    · refine V.aload_n (j := 0) rfl dX8_put_23 ?_
      refine V.getr (q := m_ops) dX8_put_24 fX8_13 rfl rfl ?_
      refine V.aload_n (j := 0) rfl dX8_put_27 ?_
      refine V.geti (v := nI ns) dX8_put_28 fX8_95 rfl rfl hs ?_
      refine V.iload_n (j := 1) rfl dX8_put_31 ?_
      refine V.sta (g := upd (A m_ops) ns (o)) dX8_put_32 rfl (by omega) (by decide) rfl ?_
      refine V.aload_n (j := 0) rfl dX8_put_33 ?_
      refine V.getr (q := m_first) dX8_put_34 fX8_16 rfl rfl ?_
      refine V.aload_n (j := 0) rfl dX8_put_37 ?_
      refine V.geti (v := nI ns) dX8_put_38 fX8_95 rfl rfl hs ?_
      refine V.iload_n (j := 2) rfl dX8_put_41 ?_
      refine V.sta (g := upd (A m_first) ns (a)) dX8_put_42 rfl (by omega) (by decide) rfl ?_
      refine V.aload_n (j := 0) rfl dX8_put_43 ?_
      refine V.getr (q := m_second) dX8_put_44 fX8_19 rfl rfl ?_
      refine V.aload_n (j := 0) rfl dX8_put_47 ?_
      refine V.geti (v := nI ns) dX8_put_48 fX8_95 rfl rfl hs ?_
      refine V.iload_n (j := 3) rfl dX8_put_51 ?_
      refine V.sta (g := upd (A m_second) ns (b)) dX8_put_52 rfl (by omega) (by decide) rfl ?_
      refine V.aload_n (j := 0) rfl dX8_put_53 ?_
      refine V.getr (q := m_third) dX8_put_54 fX8_22 rfl rfl ?_
      refine V.aload_n (j := 0) rfl dX8_put_57 ?_
      refine V.geti (v := nI ns) dX8_put_58 fX8_95 rfl rfl hs ?_
      refine V.iload (j := 4) rfl dX8_put_61 ?_
      refine V.sta (g := upd (A m_third) ns (c)) dX8_put_63 rfl (by omega) (by decide) rfl ?_
      refine V.aload_n (j := 0) rfl dX8_put_64 ?_
      refine V.dup rfl dX8_put_65 ?_
      refine V.geti (v := nI ns) dX8_put_66 fX8_95 rfl rfl hs ?_
      refine V.iconst (v := nI 1) (by decide) dX8_put_69 ?_
      refine V.iaddN dX8_put_70 ?_
      refine V.puti dX8_put_71 pX8_95 rfl rfl ?_
      refine V.aload_n (j := 0) rfl dX8_put_74 ?_
      refine V.geti (v := nI (ns + 1)) dX8_put_75 fX8_95 rfl rfl upI_s ?_
      refine V.iconst (v := nI 1) (by decide) dX8_put_78 ?_
      refine V.isubN dX8_put_79 (by omega) ?_
      refine V.ri dX8_put_80 rfl ?_
      exact ⟨fun _ => ⟨by simp, rfl, rfl⟩, fun z => absurd ⟨b1, c3⟩ z⟩
    · refine V.iconst (v := (-1)) (by decide) dX8_put_21 ?_
      refine V.ri dX8_put_22 rfl ?_
      exact ⟨fun z => by first | exact absurd z.1 b1 | (obtain ⟨z1, z2⟩ := z; contradiction), fun _ => ⟨rfl, rfl, rfl⟩⟩
  · refine V.st (st' := [.int (nI 0)]) (by rw [bI_f b1]; rfl) ?_
    refine V.if_eq (tgt := 21) dX8_put_9 (by decide) (fun _ => ?_) (fun z => absurd z (by decide))
    refine V.iconst (v := (-1)) (by decide) dX8_put_21 ?_
    refine V.ri dX8_put_22 rfl ?_
    exact ⟨fun z => by first | exact absurd z.1 b1 | (obtain ⟨z1, z2⟩ := z; contradiction), fun _ => ⟨rfl, rfl, rfl⟩⟩
end
section
/-- a row filled with 0 over m places from i on -/
def mz_fill : Nat → Nat → (Nat → Int32) → Nat → Int32
  | 0, _, f => f
  | m + 1, i, f => mz_fill m (i + 1) (upd f i (nI 0))
theorem mz_fill_at : ∀ (m i : Nat) (f : Nat → Int32) (s : Nat), mz_fill m i f s = if i ≤ s ∧ s < i + m then nI 0 else f s
  | 0, i, f, s => by rw [if_neg (by omega)]; rfl
  | m + 1, i, f, s => by
    show mz_fill m (i + 1) (upd f i (nI 0)) s = _
    rw [mz_fill_at m (i + 1)]
    by_cases h : s = i
    · subst h
      rw [if_neg (by omega), if_pos (by omega)]
      simp [upd]
    · by_cases h2 : i + 1 ≤ s ∧ s < i + 1 + m
      · rw [if_pos h2, if_pos (by omega)]
      · rw [if_neg h2, if_neg (by omega)]
        simp [upd, h]
def mz_pre : Nat → Int32
  | 0 => (-1)
  | s + 1 => nI s
theorem mz_pre_dec (m : Nat) : nI m + Int32.ofInt (-1) = mz_pre m := by
  cases m with
  | zero => decide
  | succ k => exact pk_m1 k
theorem mz_pre_sub (m : Nat) : nI m - nI 1 = mz_pre m := by
  cases m with
  | zero => decide
  | succ k => exact nI_pred k
/-- one step of the flow: what is live behind it and before it, and whether something moved -/
def mz_out (ns : Nat) (op fa fc bf : Nat → Int32) (s : Nat) : Int32 := (if op s = nI 8 then mz_at ns bf (fa s) else if op s = nI 10 then nI 0 else mz_at ns bf (nI (s + 1))) ||| (if op s = nI 7 then mz_at ns bf (fc s) else nI 0)
def mz_inn (ns : Nat) (op fa fb fc bf : Nat → Int32) (s : Nat) : Int32 := mz_taking op fa fb fc s ||| (if mz_anew op fa s = (-1) then mz_out ns op fa fc bf s else mz_out ns op fa fc bf s &&& ((nI 1 <<< (mz_anew op fa s &&& 31)) ^^^ (-1)))
def mz_mor (ns : Nat) (op fa fb fc bf bh : Nat → Int32) (mo : Int32) (s : Nat) : Int32 := if ¬ mo = 0 then nI 1 else if ¬ mz_inn ns op fa fb fc bf s = bf s then nI 1 else if mz_out ns op fa fc bf s = bh s then nI 0 else nI 1
/-- a pass over the steps, the last one first -/
def mz_pass (ns : Nat) (op fa fb fc : Nat → Int32) : Nat → (Nat → Int32) → (Nat → Int32) → Int32 → (Nat → Int32) × (Nat → Int32) × Int32
  | 0, bf, bh, mo => (bf, bh, mo)
  | s + 1, bf, bh, mo => mz_pass ns op fa fb fc s (upd bf s (mz_inn ns op fa fb fc bf s)) (upd bh s (mz_out ns op fa fc bf s)) (mz_mor ns op fa fb fc bf bh mo s)
def mz_it (ns : Nat) (op fa fb fc bf bh : Nat → Int32) : Nat → (Nat → Int32) × (Nat → Int32)
  | 0 => (bf, bh)
  | k + 1 => ((mz_pass ns op fa fb fc ns (mz_it ns op fa fb fc bf bh k).1 (mz_it ns op fa fb fc bf bh k).2 (nI 0)).1, (mz_pass ns op fa fb fc ns (mz_it ns op fa fb fc bf bh k).1 (mz_it ns op fa fb fc bf bh k).2 (nI 0)).2.1)
def mz_mo (ns : Nat) (op fa fb fc bf bh : Nat → Int32) (k : Nat) : Int32 := (mz_pass ns op fa fb fc ns (mz_it ns op fa fb fc bf bh k).1 (mz_it ns op fa fb fc bf bh k).2 (nI 0)).2.2
set_option maxRecDepth 100000 in
set_option maxHeartbeats 4000000 in
theorem ml_flow1 {G : am_G} {Fn : Array Value → State → List Frame → State → Prop} (I A : Nat → Nat → Int32) (ns : Nat) (hs : I mM 2 = nI ns) (hns : ns ≤ 60) : ∀ (m : Nat) (i : Nat) (f : Nat → Int32) (g : Nat → Int32), i + m = ns → V G MX8_flow (am_R 2 47 0 0) Fn 0 0 30 [(0, .ref mM), (1, .int (nI ns))] [] (hp I (upA (upA A m_before (mz_fill m i f)) m_behind (mz_fill m i g))) → V G MX8_flow (am_R 2 47 0 0) Fn 0 0 2 [(0, .ref mM), (1, .int (nI i))] [] (hp I (upA (upA A m_before (f)) m_behind (g))) := by
  intro m
  induction m with
  | zero =>
    intro i f g hi0 hk
    obtain rfl : ns = i := by omega
    refine V.iload_n (j := 1) rfl dX8_flow_2 ?_
    refine V.aload_n (j := 0) rfl dX8_flow_3 ?_
    refine V.geti (v := nI ns) dX8_flow_4 fX8_95 rfl rfl hs ?_
    refine V.icmp_geN (tgt := 30) dX8_flow_7 (by decide) (by omega) (by omega) (fun c1 => ?_) (fun c1 => ?_)
    · exact hk
    · exact absurd c1 (by omega)
  | succ m ih =>
    intro i f g hi0 hk
    refine V.iload_n (j := 1) rfl dX8_flow_2 ?_
    refine V.aload_n (j := 0) rfl dX8_flow_3 ?_
    refine V.geti (v := nI ns) dX8_flow_4 fX8_95 rfl rfl hs ?_
    refine V.icmp_geN (tgt := 30) dX8_flow_7 (by decide) (by omega) (by omega) (fun c2 => ?_) (fun c2 => ?_)
    · exact absurd c2 (by omega)
    · refine V.aload_n (j := 0) rfl dX8_flow_10 ?_
      refine V.getr (q := m_before) dX8_flow_11 fX8_31 rfl rfl ?_
      refine V.iload_n (j := 1) rfl dX8_flow_14 ?_
      refine V.iconst (v := nI 0) (by decide) dX8_flow_15 ?_
      refine V.sta (g := upd f i (nI 0)) dX8_flow_16 rfl (by omega) (by decide) rfl ?_
      refine V.hpe (A' := (upA (upA A m_before (upd f i (nI 0))) m_behind (g))) rfl (upA_r2 (by decide)) ?_
      refine V.aload_n (j := 0) rfl dX8_flow_17 ?_
      refine V.getr (q := m_behind) dX8_flow_18 fX8_34 rfl rfl ?_
      refine V.iload_n (j := 1) rfl dX8_flow_21 ?_
      refine V.iconst (v := nI 0) (by decide) dX8_flow_22 ?_
      refine V.sta (g := upd g i (nI 0)) dX8_flow_23 rfl (by omega) (by decide) rfl ?_
      refine V.hpe (A' := (upA (upA A m_before (upd f i (nI 0))) m_behind (upd g i (nI 0)))) rfl upA_u ?_
      refine V.iincN (ls' := [(0, .ref mM), (1, .int (nI (i + 1)))]) dX8_flow_24 (j := 1) rfl (by decide) rfl ?_
      refine V.goto (tgt := 2) dX8_flow_27 (by decide) ?_
      exact ih (i + 1) _ _ (by omega) hk
set_option maxRecDepth 100000 in
set_option maxHeartbeats 4000000 in
theorem ml_flow2 {G : am_G} {Fn : Array Value → State → List Frame → State → Prop} (I A : Nat → Nat → Int32) (ns : Nat) (hs : I mM 2 = nI ns) (hns : ns ≤ 60) (h8 : ∀ s, s < ns → A m_ops s = nI 8 → ¬ A m_first s < 0) (h7 : ∀ s, s < ns → A m_ops s = nI 7 → ¬ A m_third s < 0) : ∀ (m : Nat) (f : Nat → Int32) (g : Nat → Int32) (mo : Int32), m ≤ ns → V G MX8_flow (am_R 2 47 0 0) Fn 0 0 208 [(0, .ref mM), (1, .int (mz_pass ns (A m_ops) (A m_first) (A m_second) (A m_third) m f g mo).2.2)] [] (hp I (upA (upA A m_before (mz_pass ns (A m_ops) (A m_first) (A m_second) (A m_third) m f g mo).1) m_behind (mz_pass ns (A m_ops) (A m_first) (A m_second) (A m_third) m f g mo).2.1)) → V G MX8_flow (am_R 2 47 0 0) Fn 0 0 45 [(0, .ref mM), (1, .int mo), (2, .int (mz_pre m))] [] (hp I (upA (upA A m_before (f)) m_behind (g))) := by
  intro m
  induction m with
  | zero =>
    intro f g mo hi0 hk
    refine V.lse (ls' := [(0, .ref mM), (1, .int mo), (2, .int ((-1)))]) rfl ?_
    refine V.iload_n (j := 2) rfl dX8_flow_45 ?_
    refine V.if_lt (tgt := 208) dX8_flow_46 (by decide) (fun c1 => ?_) (fun c1 => ?_)
    · refine V.fewer [0, 1] rfl ?_
      exact hk
    · exact absurd (by decide) c1
  | succ m ih =>
    intro f g mo hi0 hk
    refine V.lse (ls' := [(0, .ref mM), (1, .int mo), (2, .int (nI m))]) rfl ?_
    refine V.iload_n (j := 2) rfl dX8_flow_45 ?_
    refine V.if_ltN (tgt := 208) dX8_flow_46 (by decide) (by omega) ?_
    refine V.aload_n (j := 0) rfl dX8_flow_49 ?_
    refine V.getr (q := m_ops) dX8_flow_50 fX8_13 rfl rfl ?_
    refine V.iload_n (j := 2) rfl dX8_flow_53 ?_
    refine V.lda (v := A m_ops m) dX8_flow_54 rfl (by omega) (by decide) rfl ?_
    refine V.istore_n (ls' := [(0, .ref mM), (1, .int mo), (2, .int (nI m)), (3, .int (A m_ops m))]) dX8_flow_55 (by decide) rfl ?_
    refine V.iload_n (j := 3) rfl dX8_flow_56 ?_
    refine V.bipush (v := nI 8) (by decide) dX8_flow_57 ?_
    have K3 : V G MX8_flow (am_R 2 47 0 0) Fn 0 0 92 [(0, .ref mM), (1, .int mo), (2, .int (nI m)), (3, .int (A m_ops m))] [.int (if A m_ops m = nI 8 then mz_at ns f (A m_first m) else if A m_ops m = nI 10 then nI 0 else mz_at ns f (nI (m + 1)))] (hp I (upA (upA A m_before (f)) m_behind (g))) := by
      refine V.istore (ls' := [(0, .ref mM), (1, .int mo), (2, .int (nI m)), (3, .int (A m_ops m)), (4, .int (if A m_ops m = nI 8 then mz_at ns f (A m_first m) else if A m_ops m = nI 10 then nI 0 else mz_at ns f (nI (m + 1))))]) dX8_flow_92 (by decide) rfl ?_
      refine V.iload (j := 4) rfl dX8_flow_94 ?_
      refine V.iload_n (j := 3) rfl dX8_flow_96 ?_
      refine V.bipush (v := nI 7) (by decide) dX8_flow_97 ?_
      have K4 : V G MX8_flow (am_R 2 47 0 0) Fn 0 0 116 [(0, .ref mM), (1, .int mo), (2, .int (nI m)), (3, .int (A m_ops m)), (4, .int (if A m_ops m = nI 8 then mz_at ns f (A m_first m) else if A m_ops m = nI 10 then nI 0 else mz_at ns f (nI (m + 1))))] [.int (if A m_ops m = nI 7 then mz_at ns f (A m_third m) else nI 0), .int (if A m_ops m = nI 8 then mz_at ns f (A m_first m) else if A m_ops m = nI 10 then nI 0 else mz_at ns f (nI (m + 1)))] (hp I (upA (upA A m_before (f)) m_behind (g))) := by
        refine V.ior dX8_flow_116 ?_
        refine V.istore (ls' := [(0, .ref mM), (1, .int mo), (2, .int (nI m)), (3, .int (A m_ops m)), (4, .int ((if A m_ops m = nI 8 then mz_at ns f (A m_first m) else if A m_ops m = nI 10 then nI 0 else mz_at ns f (nI (m + 1))) ||| (if A m_ops m = nI 7 then mz_at ns f (A m_third m) else nI 0)))]) dX8_flow_117 (by decide) rfl ?_
        refine V.lse (ls' := [(0, .ref mM), (1, .int mo), (2, .int (nI m)), (3, .int (A m_ops m)), (4, .int (mz_out ns (A m_ops) (A m_first) (A m_third) f m))]) rfl ?_
        refine V.aload_n (j := 0) rfl dX8_flow_119 ?_
        refine V.iload_n (j := 2) rfl dX8_flow_120 ?_
        refine V.cV (As := [.int (nI m)]) (st := []) dX8_flow_121 sX8_106 iX8_anew lX8_anew rfl rfl (md_anew _ _ m (by omega)) ⟨by decide, by decide⟩ (Nat.le_of_ble_eq_true rfl) rfl (fun r I' A' hq => ?_)
        obtain ⟨rfl, rfl, rfl⟩ := hq
        refine V.st (st' := [.int (mz_anew (A m_ops) (A m_first) m)]) rfl ?_
        refine V.istore (ls' := [(0, .ref mM), (1, .int mo), (2, .int (nI m)), (3, .int (A m_ops m)), (4, .int (mz_out ns (A m_ops) (A m_first) (A m_third) f m)), (5, .int (mz_anew (A m_ops) (A m_first) m))]) dX8_flow_124 (by decide) rfl ?_
        refine V.aload_n (j := 0) rfl dX8_flow_126 ?_
        refine V.iload_n (j := 2) rfl dX8_flow_127 ?_
        refine V.cV (As := [.int (nI m)]) (st := []) dX8_flow_128 sX8_109 iX8_taking lX8_taking rfl rfl (md_taking _ _ m (by omega)) ⟨by decide, by decide⟩ (Nat.le_of_ble_eq_true rfl) rfl (fun r I' A' hq => ?_)
        obtain ⟨rfl, rfl, rfl⟩ := hq
        refine V.st (st' := [.int (mz_taking (A m_ops) (A m_first) (A m_second) (A m_third) m)]) rfl ?_
        refine V.iload (j := 5) rfl dX8_flow_131 ?_
        refine V.iconst (v := (-1)) (by decide) dX8_flow_133 ?_
        have K5 : V G MX8_flow (am_R 2 47 0 0) Fn 0 0 151 [(0, .ref mM), (1, .int mo), (2, .int (nI m)), (3, .int (A m_ops m)), (4, .int (mz_out ns (A m_ops) (A m_first) (A m_third) f m)), (5, .int (mz_anew (A m_ops) (A m_first) m))] [.int (if mz_anew (A m_ops) (A m_first) m = (-1) then mz_out ns (A m_ops) (A m_first) (A m_third) f m else mz_out ns (A m_ops) (A m_first) (A m_third) f m &&& ((nI 1 <<< (mz_anew (A m_ops) (A m_first) m &&& 31)) ^^^ (-1))), .int (mz_taking (A m_ops) (A m_first) (A m_second) (A m_third) m)] (hp I (upA (upA A m_before (f)) m_behind (g))) := by
          refine V.ior dX8_flow_151 ?_
          refine V.istore (ls' := [(0, .ref mM), (1, .int mo), (2, .int (nI m)), (3, .int (A m_ops m)), (4, .int (mz_out ns (A m_ops) (A m_first) (A m_third) f m)), (5, .int (mz_anew (A m_ops) (A m_first) m)), (6, .int ((mz_taking (A m_ops) (A m_first) (A m_second) (A m_third) m) ||| (if mz_anew (A m_ops) (A m_first) m = (-1) then mz_out ns (A m_ops) (A m_first) (A m_third) f m else mz_out ns (A m_ops) (A m_first) (A m_third) f m &&& ((nI 1 <<< (mz_anew (A m_ops) (A m_first) m &&& 31)) ^^^ (-1)))))]) dX8_flow_152 (by decide) rfl ?_
          refine V.lse (ls' := [(0, .ref mM), (1, .int mo), (2, .int (nI m)), (3, .int (A m_ops m)), (4, .int (mz_out ns (A m_ops) (A m_first) (A m_third) f m)), (5, .int (mz_anew (A m_ops) (A m_first) m)), (6, .int (mz_inn ns (A m_ops) (A m_first) (A m_second) (A m_third) f m))]) rfl ?_
          refine V.iload_n (j := 1) rfl dX8_flow_154 ?_
          have K6 : V G MX8_flow (am_R 2 47 0 0) Fn 0 0 185 [(0, .ref mM), (1, .int mo), (2, .int (nI m)), (3, .int (A m_ops m)), (4, .int (mz_out ns (A m_ops) (A m_first) (A m_third) f m)), (5, .int (mz_anew (A m_ops) (A m_first) m)), (6, .int (mz_inn ns (A m_ops) (A m_first) (A m_second) (A m_third) f m))] [.int (mz_mor ns (A m_ops) (A m_first) (A m_second) (A m_third) f g mo m)] (hp I (upA (upA A m_before (f)) m_behind (g))) := by
            refine V.istore_n (ls' := [(0, .ref mM), (1, .int (mz_mor ns (A m_ops) (A m_first) (A m_second) (A m_third) f g mo m)), (2, .int (nI m)), (3, .int (A m_ops m)), (4, .int (mz_out ns (A m_ops) (A m_first) (A m_third) f m)), (5, .int (mz_anew (A m_ops) (A m_first) m)), (6, .int (mz_inn ns (A m_ops) (A m_first) (A m_second) (A m_third) f m))]) dX8_flow_185 (by decide) rfl ?_
            refine V.aload_n (j := 0) rfl dX8_flow_186 ?_
            refine V.getr (q := m_before) dX8_flow_187 fX8_31 rfl rfl ?_
            refine V.iload_n (j := 2) rfl dX8_flow_190 ?_
            refine V.iload (j := 6) rfl dX8_flow_191 ?_
            refine V.sta (g := upd f m (mz_inn ns (A m_ops) (A m_first) (A m_second) (A m_third) f m)) dX8_flow_193 rfl (by omega) (by decide) rfl ?_
            refine V.hpe (A' := (upA (upA A m_before (upd f m (mz_inn ns (A m_ops) (A m_first) (A m_second) (A m_third) f m))) m_behind (g))) rfl (upA_r2 (by decide)) ?_
            refine V.aload_n (j := 0) rfl dX8_flow_194 ?_
            refine V.getr (q := m_behind) dX8_flow_195 fX8_34 rfl rfl ?_
            refine V.iload_n (j := 2) rfl dX8_flow_198 ?_
            refine V.iload (j := 4) rfl dX8_flow_199 ?_
            refine V.sta (g := upd g m (mz_out ns (A m_ops) (A m_first) (A m_third) f m)) dX8_flow_201 rfl (by omega) (by decide) rfl ?_
            refine V.hpe (A' := (upA (upA A m_before (upd f m (mz_inn ns (A m_ops) (A m_first) (A m_second) (A m_third) f m))) m_behind (upd g m (mz_out ns (A m_ops) (A m_first) (A m_third) f m)))) rfl upA_u ?_
            refine V.iinc (v := mz_pre m) (ls' := [(0, .ref mM), (1, .int (mz_mor ns (A m_ops) (A m_first) (A m_second) (A m_third) f g mo m)), (2, .int (mz_pre m)), (3, .int (A m_ops m)), (4, .int (mz_out ns (A m_ops) (A m_first) (A m_third) f m)), (5, .int (mz_anew (A m_ops) (A m_first) m)), (6, .int (mz_inn ns (A m_ops) (A m_first) (A m_second) (A m_third) f m))]) dX8_flow_202 (j := 2) rfl (mz_pre_dec m) (by decide) rfl ?_
            refine V.goto (tgt := 45) dX8_flow_205 (by decide) ?_
            refine V.fewer [0, 1, 2] rfl ?_
            exact ih _ _ _ (by omega) hk
          refine V.if_ne (tgt := 180) dX8_flow_155 (by decide) (fun c7 => ?_) (fun c7 => ?_)
          · refine V.iconst (v := nI 1) (by decide) dX8_flow_180 ?_
            refine V.goto (tgt := 185) dX8_flow_181 (by decide) ?_
            exact V.st (by unfold mz_mor; (repeat' split) <;> first | rfl | contradiction | simp_all) K6
          · refine V.iload (j := 6) rfl dX8_flow_158 ?_
            refine V.aload_n (j := 0) rfl dX8_flow_160 ?_
            refine V.getr (q := m_before) dX8_flow_161 fX8_31 rfl rfl ?_
            refine V.iload_n (j := 2) rfl dX8_flow_164 ?_
            refine V.lda (v := f m) dX8_flow_165 rfl (by omega) (by decide) rfl ?_
            refine V.icmp_ne (tgt := 180) dX8_flow_166 (by decide) (fun c8 => ?_) (fun c8 => ?_)
            · refine V.iconst (v := nI 1) (by decide) dX8_flow_180 ?_
              refine V.goto (tgt := 185) dX8_flow_181 (by decide) ?_
              exact V.st (by unfold mz_mor; (repeat' split) <;> first | rfl | contradiction | simp_all) K6
            · refine V.iload (j := 4) rfl dX8_flow_169 ?_
              refine V.aload_n (j := 0) rfl dX8_flow_171 ?_
              refine V.getr (q := m_behind) dX8_flow_172 fX8_34 rfl rfl ?_
              refine V.iload_n (j := 2) rfl dX8_flow_175 ?_
              refine V.lda (v := g m) dX8_flow_176 rfl (by omega) (by decide) rfl ?_
              refine V.icmp_eq (tgt := 184) dX8_flow_177 (by decide) (fun c9 => ?_) (fun c9 => ?_)
              · refine V.iconst (v := nI 0) (by decide) dX8_flow_184 ?_
                exact V.st (by unfold mz_mor; (repeat' split) <;> first | rfl | contradiction | simp_all) K6
              · refine V.iconst (v := nI 1) (by decide) dX8_flow_180 ?_
                refine V.goto (tgt := 185) dX8_flow_181 (by decide) ?_
                exact V.st (by unfold mz_mor; (repeat' split) <;> first | rfl | contradiction | simp_all) K6
        refine V.icmp_ne (tgt := 142) dX8_flow_134 (by decide) (fun c10 => ?_) (fun c10 => ?_)
        · refine V.iload (j := 4) rfl dX8_flow_142 ?_
          refine V.iconst (v := nI 1) (by decide) dX8_flow_144 ?_
          refine V.iload (j := 5) rfl dX8_flow_145 ?_
          refine V.ishl dX8_flow_147 ?_
          refine V.iconst (v := (-1)) (by decide) dX8_flow_148 ?_
          refine V.ixor dX8_flow_149 ?_
          refine V.iand dX8_flow_150 ?_
          exact V.st (by (repeat' split) <;> first | rfl | contradiction | simp_all) K5
        · refine V.iload (j := 4) rfl dX8_flow_137 ?_
          refine V.goto (tgt := 151) dX8_flow_139 (by decide) ?_
          exact V.st (by (repeat' split) <;> first | rfl | contradiction | simp_all) K5
      refine V.icmp_ne (tgt := 115) dX8_flow_99 (by decide) (fun c11 => ?_) (fun c11 => ?_)
      · refine V.iconst (v := nI 0) (by decide) dX8_flow_115 ?_
        exact V.st (by (repeat' split) <;> first | rfl | contradiction | simp_all) K4
      · refine V.aload_n (j := 0) rfl dX8_flow_102 ?_
        refine V.aload_n (j := 0) rfl dX8_flow_103 ?_
        refine V.getr (q := m_third) dX8_flow_104 fX8_22 rfl rfl ?_
        refine V.iload_n (j := 2) rfl dX8_flow_107 ?_
        refine V.lda (v := A m_third m) dX8_flow_108 rfl (by omega) (by decide) rfl ?_
        refine V.cV (As := [.int (A m_third m)]) (st := [.int (if A m_ops m = nI 8 then mz_at ns f (A m_first m) else if A m_ops m = nI 10 then nI 0 else mz_at ns f (nI (m + 1)))]) dX8_flow_109 sX8_102 iX8_liveAt lX8_liveAt rfl rfl (md_liveAt _ _ ns hs hns _ (h7 _ (by omega) (by assumption))) ⟨by decide, by decide⟩ (Nat.le_of_ble_eq_true rfl) rfl (fun r I' A' hq => ?_)
        obtain ⟨rfl, rfl, rfl⟩ := hq
        refine V.st (st' := [.int (mz_at ns f (A m_third m)), .int (if A m_ops m = nI 8 then mz_at ns f (A m_first m) else if A m_ops m = nI 10 then nI 0 else mz_at ns f (nI (m + 1)))]) rfl ?_
        refine V.goto (tgt := 116) dX8_flow_112 (by decide) ?_
        exact V.st (by (repeat' split) <;> first | rfl | contradiction | simp_all) K4
    refine V.icmp_ne (tgt := 75) dX8_flow_59 (by decide) (fun c12 => ?_) (fun c12 => ?_)
    · refine V.iload_n (j := 3) rfl dX8_flow_75 ?_
      refine V.bipush (v := nI 10) (by decide) dX8_flow_76 ?_
      refine V.icmp_ne (tgt := 85) dX8_flow_78 (by decide) (fun c13 => ?_) (fun c13 => ?_)
      · refine V.aload_n (j := 0) rfl dX8_flow_85 ?_
        refine V.iload_n (j := 2) rfl dX8_flow_86 ?_
        refine V.iconst (v := nI 1) (by decide) dX8_flow_87 ?_
        refine V.iaddN dX8_flow_88 ?_
        refine V.cV (As := [.int (nI (m + 1))]) (st := []) dX8_flow_89 sX8_102 iX8_liveAt lX8_liveAt rfl rfl (md_liveAt _ _ ns hs hns _ (nI_pos (by omega))) ⟨by decide, by decide⟩ (Nat.le_of_ble_eq_true rfl) rfl (fun r I' A' hq => ?_)
        obtain ⟨rfl, rfl, rfl⟩ := hq
        refine V.st (st' := [.int (mz_at ns f (nI (m + 1)))]) rfl ?_
        exact V.st (by (repeat' split) <;> first | rfl | contradiction | simp_all) K3
      · refine V.iconst (v := nI 0) (by decide) dX8_flow_81 ?_
        refine V.goto (tgt := 92) dX8_flow_82 (by decide) ?_
        exact V.st (by (repeat' split) <;> first | rfl | contradiction | simp_all) K3
    · refine V.aload_n (j := 0) rfl dX8_flow_62 ?_
      refine V.aload_n (j := 0) rfl dX8_flow_63 ?_
      refine V.getr (q := m_first) dX8_flow_64 fX8_16 rfl rfl ?_
      refine V.iload_n (j := 2) rfl dX8_flow_67 ?_
      refine V.lda (v := A m_first m) dX8_flow_68 rfl (by omega) (by decide) rfl ?_
      refine V.cV (As := [.int (A m_first m)]) (st := []) dX8_flow_69 sX8_102 iX8_liveAt lX8_liveAt rfl rfl (md_liveAt _ _ ns hs hns _ (h8 _ (by omega) (by assumption))) ⟨by decide, by decide⟩ (Nat.le_of_ble_eq_true rfl) rfl (fun r I' A' hq => ?_)
      obtain ⟨rfl, rfl, rfl⟩ := hq
      refine V.st (st' := [.int (mz_at ns f (A m_first m))]) rfl ?_
      refine V.goto (tgt := 92) dX8_flow_72 (by decide) ?_
      exact V.st (by (repeat' split) <;> first | rfl | contradiction | simp_all) K3
set_option maxRecDepth 100000 in
set_option maxHeartbeats 4000000 in
theorem ml_flow3 {G : am_G} {Fn : Array Value → State → List Frame → State → Prop} (I A : Nat → Nat → Int32) (ns : Nat) (hs : I mM 2 = nI ns) (hns : ns ≤ 60) (h8 : ∀ s, s < ns → A m_ops s = nI 8 → ¬ A m_first s < 0) (h7 : ∀ s, s < ns → A m_ops s = nI 7 → ¬ A m_third s < 0) (f0 g0 : Nat → Int32) (kf : Nat) (hkf : mz_mo ns (A m_ops) (A m_first) (A m_second) (A m_third) f0 g0 kf = nI 0) (hmin : ∀ j, j < kf → ¬ mz_mo ns (A m_ops) (A m_first) (A m_second) (A m_third) f0 g0 j = nI 0) : ∀ (m j : Nat) (mo : Int32), ¬ mo = 0 → j + m = kf → V G MX8_flow (am_R 2 47 0 0) Fn 0 0 211 [(0, .ref mM)] [] (hp I (upA (upA A m_before (mz_it ns (A m_ops) (A m_first) (A m_second) (A m_third) f0 g0 (kf + 1)).1) m_behind (mz_it ns (A m_ops) (A m_first) (A m_second) (A m_third) f0 g0 (kf + 1)).2)) → V G MX8_flow (am_R 2 47 0 0) Fn 0 0 32 [(0, .ref mM), (1, .int mo)] [] (hp I (upA (upA A m_before (mz_it ns (A m_ops) (A m_first) (A m_second) (A m_third) f0 g0 j).1) m_behind (mz_it ns (A m_ops) (A m_first) (A m_second) (A m_third) f0 g0 j).2)) := by
  intro m
  induction m with
  | zero =>
    intro j mo hmo hj hk
    refine V.iload_n (j := 1) rfl dX8_flow_32 ?_
    refine V.if_eq (tgt := 211) dX8_flow_33 (by decide) (fun c => absurd c hmo) (fun c => ?_)
    refine V.iconst (v := nI 0) (by decide) dX8_flow_36 ?_
    refine V.istore_n (ls' := [(0, .ref mM), (1, .int (nI 0))]) dX8_flow_37 (by decide) rfl ?_
    refine V.aload_n (j := 0) rfl dX8_flow_38 ?_
    refine V.geti (v := nI ns) dX8_flow_39 fX8_95 rfl rfl hs ?_
    refine V.iconst (v := nI 1) (by decide) dX8_flow_42 ?_
    refine V.isub dX8_flow_43 ?_
    refine V.st (st' := [.int (mz_pre ns)]) (by rw [mz_pre_sub]) ?_
    refine V.istore_n (ls' := [(0, .ref mM), (1, .int (nI 0)), (2, .int (mz_pre ns))]) dX8_flow_44 (by decide) rfl ?_
    refine ml_flow2 I A ns hs hns h8 h7 ns _ _ _ (Nat.le_refl _) ?_
    refine V.goto (tgt := 32) dX8_flow_208 (by decide) ?_
    obtain rfl : kf = j := by omega
    refine V.iload_n (j := 1) rfl dX8_flow_32 ?_
    refine V.if_eq (tgt := 211) dX8_flow_33 (by decide) (fun c => ?_) (fun c => absurd hkf c)
    refine V.fewer [0] rfl ?_
    exact hk
  | succ m ih =>
    intro j mo hmo hj hk
    refine V.iload_n (j := 1) rfl dX8_flow_32 ?_
    refine V.if_eq (tgt := 211) dX8_flow_33 (by decide) (fun c => absurd c hmo) (fun c => ?_)
    refine V.iconst (v := nI 0) (by decide) dX8_flow_36 ?_
    refine V.istore_n (ls' := [(0, .ref mM), (1, .int (nI 0))]) dX8_flow_37 (by decide) rfl ?_
    refine V.aload_n (j := 0) rfl dX8_flow_38 ?_
    refine V.geti (v := nI ns) dX8_flow_39 fX8_95 rfl rfl hs ?_
    refine V.iconst (v := nI 1) (by decide) dX8_flow_42 ?_
    refine V.isub dX8_flow_43 ?_
    refine V.st (st' := [.int (mz_pre ns)]) (by rw [mz_pre_sub]) ?_
    refine V.istore_n (ls' := [(0, .ref mM), (1, .int (nI 0)), (2, .int (mz_pre ns))]) dX8_flow_44 (by decide) rfl ?_
    refine ml_flow2 I A ns hs hns h8 h7 ns _ _ _ (Nat.le_refl _) ?_
    refine V.goto (tgt := 32) dX8_flow_208 (by decide) ?_
    exact ih (j + 1) _ (hmin j (by omega)) (by omega) hk
set_option maxRecDepth 100000 in
set_option maxHeartbeats 4000000 in
theorem md_flow {G : am_G} (I A : Nat → Nat → Int32) (ns : Nat) (hs : I mM 2 = nI ns) (hns : ns ≤ 60) (h8 : ∀ s, s < ns → A m_ops s = nI 8 → ¬ A m_first s < 0) (h7 : ∀ s, s < ns → A m_ops s = nI 7 → ¬ A m_third s < 0) (hT : ∃ k, mz_mo ns (A m_ops) (A m_first) (A m_second) (A m_third) (mz_fill ns 0 (A m_before)) (mz_fill ns 0 (A m_behind)) k = nI 0) : Cm G MX8_flow 2 47 [.ref mM] I A (fun r I' A' => r = none ∧ I = I' ∧ ∃ k, mz_mo ns (A m_ops) (A m_first) (A m_second) (A m_third) (mz_fill ns 0 (A m_before)) (mz_fill ns 0 (A m_behind)) k = nI 0 ∧ upA (upA A m_before (mz_it ns (A m_ops) (A m_first) (A m_second) (A m_third) (mz_fill ns 0 (A m_before)) (mz_fill ns 0 (A m_behind)) (k + 1)).1) m_behind (mz_it ns (A m_ops) (A m_first) (A m_second) (A m_third) (mz_fill ns 0 (A m_before)) (mz_fill ns 0 (A m_behind)) (k + 1)).2 = A') := by
  refine Cm.of (by decide) (Nat.le_of_ble_eq_true rfl) rfl ?_
  show V G MX8_flow (am_R 2 47 0 0) _ 0 0 0 [(0, .ref mM)] [] (hp I A)
  obtain ⟨kf, hkf, hmin⟩ := pk_least _ hT
  refine V.iconst (v := nI 0) (by decide) dX8_flow_0 ?_
  refine V.istore_n (ls' := [(0, .ref mM), (1, .int (nI 0))]) dX8_flow_1 (by decide) rfl ?_
  refine V.hpe (A' := (upA (upA A m_before (A m_before)) m_behind (A m_behind))) rfl (by rw [upA_i, upA_i]) ?_
  refine ml_flow1 I A ns hs hns ns 0 _ _ (by omega) ?_
  refine V.iconst (v := nI 1) (by decide) dX8_flow_30 ?_
  refine V.istore_n (ls' := [(0, .ref mM), (1, .int (nI 1))]) dX8_flow_31 (by decide) rfl ?_
  refine ml_flow3 I A ns hs hns h8 h7 _ _ kf hkf hmin kf 0 _ (by decide) (by omega) ?_
  refine V.rv dX8_flow_211 rfl ?_
  exact ⟨rfl, rfl, kf, hkf, rfl⟩
end
section
theorem bI_1 {c : Prop} (h : c) : nI 1 = bI c := (bI_t h).symm
theorem bI_0 {c : Prop} (h : ¬ c) : nI 0 = bI c := (bI_f h).symm
theorem bI_z {c : Prop} (h : bI c = 0) : ¬ c := fun q => by rw [bI_t q] at h; exact absurd h (by decide)
theorem bI_nz {c : Prop} (h : ¬ bI c = 0) : c := Classical.byContradiction fun q => h (bI_f q)
theorem ex_no {p : Nat → Prop} {i : Nat} (h : ¬ ∃ t, t < i ∧ p t) (h2 : ¬ p i) : ¬ ∃ t, t < i + 1 ∧ p t := by
  intro z
  obtain ⟨t, h3, h4⟩ := z
  by_cases h5 : t = i
  · subst h5; exact h2 h4
  · exact h ⟨t, by omega, h4⟩
theorem bI_c {c d : Prop} (h : c ↔ d) : bI c = bI d := by rw [propext h]
/-- a home is free for a value: no value in its way has it -/
def mz_free (nv : Nat) (w : Int32) (hm : Nat → Int32) (k : Int32) : Prop := ∀ u, u < nv → ((w >>> (nI u &&& 31)) &&& nI 1) = 0 ∨ ¬ hm u = k
/-- a step 1 joins two values -/
def mz_jn (op fa fb : Nat → Int32) (v u : Int32) (t : Nat) : Prop := op t = nI 1 ∧ ((fa t = v ∧ fb t = u) ∨ (fa t = u ∧ fb t = v))
def mz_joined (ns : Nat) (op fa fb : Nat → Int32) (v u : Int32) : Prop := ∃ t, t < ns ∧ mz_jn op fa fb v u t
set_option maxRecDepth 100000 in
set_option maxHeartbeats 4000000 in
theorem ml_isFree {G : am_G} {Fn : Array Value → State → List Frame → State → Prop} (I A : Nat → Nat → Int32) (nv : Nat) (hn : I mM 0 = nI nv) (hnv : nv ≤ 24) (v : Nat) (hv : v < nv) (k : Int32) : ∀ (m : Nat) (i : Nat), i + m = nv → V G MX8_isFree (am_R 0 0 0 0) Fn 0 0 55 [(0, .ref mM), (1, .int (nI v)), (2, .int k), (3, .int (bI (∀ t, t < nv → ((A m_way v >>> (nI t &&& 31)) &&& nI 1) = 0 ∨ ¬ A m_homes t = k)))] [] (hp I A) → V G MX8_isFree (am_R 0 0 0 0) Fn 0 0 5 [(0, .ref mM), (1, .int (nI v)), (2, .int k), (3, .int (bI (∀ t, t < i → ((A m_way v >>> (nI t &&& 31)) &&& nI 1) = 0 ∨ ¬ A m_homes t = k))), (4, .int (nI i))] [] (hp I A) := by
  intro m
  induction m with
  | zero =>
    intro i hi0 hk
    obtain rfl : nv = i := by omega
    refine V.iload (j := 4) rfl dX8_isFree_5 ?_
    refine V.aload_n (j := 0) rfl dX8_isFree_7 ?_
    refine V.geti (v := nI nv) dX8_isFree_8 fX8_79 rfl rfl hn ?_
    refine V.icmp_geN (tgt := 55) dX8_isFree_11 (by decide) (by omega) (by omega) (fun c1 => ?_) (fun c1 => ?_)
    · refine V.fewer [0, 1, 2, 3] rfl ?_
      exact hk
    · exact absurd c1 (by omega)
  | succ m ih =>
    intro i hi0 hk
    refine V.iload (j := 4) rfl dX8_isFree_5 ?_
    refine V.aload_n (j := 0) rfl dX8_isFree_7 ?_
    refine V.geti (v := nI nv) dX8_isFree_8 fX8_79 rfl rfl hn ?_
    refine V.icmp_geN (tgt := 55) dX8_isFree_11 (by decide) (by omega) (by omega) (fun c2 => ?_) (fun c2 => ?_)
    · exact absurd c2 (by omega)
    · refine V.iload_n (j := 3) rfl dX8_isFree_14 ?_
      have K3 : V G MX8_isFree (am_R 0 0 0 0) Fn 0 0 48 [(0, .ref mM), (1, .int (nI v)), (2, .int k), (3, .int (bI (∀ t, t < i → ((A m_way v >>> (nI t &&& 31)) &&& nI 1) = 0 ∨ ¬ A m_homes t = k))), (4, .int (nI i))] [.int (bI (∀ t, t < i + 1 → ((A m_way v >>> (nI t &&& 31)) &&& nI 1) = 0 ∨ ¬ A m_homes t = k))] (hp I A) := by
        refine V.istore_n (ls' := [(0, .ref mM), (1, .int (nI v)), (2, .int k), (3, .int (bI (∀ t, t < i + 1 → ((A m_way v >>> (nI t &&& 31)) &&& nI 1) = 0 ∨ ¬ A m_homes t = k))), (4, .int (nI i))]) dX8_isFree_48 (by decide) rfl ?_
        refine V.iincN (ls' := [(0, .ref mM), (1, .int (nI v)), (2, .int k), (3, .int (bI (∀ t, t < i + 1 → ((A m_way v >>> (nI t &&& 31)) &&& nI 1) = 0 ∨ ¬ A m_homes t = k))), (4, .int (nI (i + 1)))]) dX8_isFree_49 (j := 4) rfl (by decide) rfl ?_
        refine V.goto (tgt := 5) dX8_isFree_52 (by decide) ?_
        exact ih (i + 1) (by omega) hk
      refine V.if_eq (tgt := 47) dX8_isFree_15 (by decide) (fun c4 => ?_) (fun c4 => ?_)
      · refine V.iconst (v := nI 0) (by decide) dX8_isFree_47 ?_
        exact V.st (congrArg (fun x => [Value.int x]) (bI_0 (fun z => bI_z c4 (fun t ht => z t (by omega))))) K3
      · refine V.aload_n (j := 0) rfl dX8_isFree_18 ?_
        refine V.getr (q := m_way) dX8_isFree_19 fX8_37 rfl rfl ?_
        refine V.iload_n (j := 1) rfl dX8_isFree_22 ?_
        refine V.lda (v := A m_way v) dX8_isFree_23 rfl (by omega) (by decide) rfl ?_
        refine V.iload (j := 4) rfl dX8_isFree_24 ?_
        refine V.ishr dX8_isFree_26 ?_
        refine V.iconst (v := nI 1) (by decide) dX8_isFree_27 ?_
        refine V.iand dX8_isFree_28 ?_
        refine V.if_eq (tgt := 43) dX8_isFree_29 (by decide) (fun c5 => ?_) (fun c5 => ?_)
        · refine V.iconst (v := nI 1) (by decide) dX8_isFree_43 ?_
          refine V.goto (tgt := 48) dX8_isFree_44 (by decide) ?_
          exact V.st (congrArg (fun x => [Value.int x]) (bI_1 (lt_s (bI_nz c4) (Or.inl c5)))) K3
        · refine V.aload_n (j := 0) rfl dX8_isFree_32 ?_
          refine V.getr (q := m_homes) dX8_isFree_33 fX8_46 rfl rfl ?_
          refine V.iload (j := 4) rfl dX8_isFree_36 ?_
          refine V.lda (v := A m_homes i) dX8_isFree_38 rfl (by omega) (by decide) rfl ?_
          refine V.iload_n (j := 2) rfl dX8_isFree_39 ?_
          refine V.icmp_eq (tgt := 47) dX8_isFree_40 (by decide) (fun c6 => ?_) (fun c6 => ?_)
          · refine V.iconst (v := nI 0) (by decide) dX8_isFree_47 ?_
            exact V.st (congrArg (fun x => [Value.int x]) (bI_0 (fun z => (z i (by omega)).elim c5 (fun y => y c6)))) K3
          · refine V.iconst (v := nI 1) (by decide) dX8_isFree_43 ?_
            refine V.goto (tgt := 48) dX8_isFree_44 (by decide) ?_
            exact V.st (congrArg (fun x => [Value.int x]) (bI_1 (lt_s (bI_nz c4) (Or.inr c6)))) K3
set_option maxRecDepth 100000 in
set_option maxHeartbeats 4000000 in
theorem md_isFree {G : am_G} (I A : Nat → Nat → Int32) (nv : Nat) (hn : I mM 0 = nI nv) (hnv : nv ≤ 24) (v : Nat) (hv : v < nv) (k : Int32) : Cm G MX8_isFree 0 0 [.ref mM, .int (nI v), .int k] I A (fun r I' A' => r = some (.int (bI (mz_free nv (A m_way v) (A m_homes) k))) ∧ I = I' ∧ A = A') := by
  refine Cm.of (by decide) (Nat.le_of_ble_eq_true rfl) rfl ?_
  show V G MX8_isFree (am_R 0 0 0 0) _ 0 0 0 [(0, .ref mM), (1, .int (nI v)), (2, .int k)] [] (hp I A)
  refine V.iconst (v := nI 1) (by decide) dX8_isFree_0 ?_
  refine V.istore_n (ls' := [(0, .ref mM), (1, .int (nI v)), (2, .int k), (3, .int (nI 1))]) dX8_isFree_1 (by decide) rfl ?_
  refine V.iconst (v := nI 0) (by decide) dX8_isFree_2 ?_
  refine V.istore (ls' := [(0, .ref mM), (1, .int (nI v)), (2, .int k), (3, .int (nI 1)), (4, .int (nI 0))]) dX8_isFree_3 (by decide) rfl ?_
  refine V.lse (ls' := [(0, .ref mM), (1, .int (nI v)), (2, .int k), (3, .int (bI (∀ t, t < 0 → ((A m_way v >>> (nI t &&& 31)) &&& nI 1) = 0 ∨ ¬ A m_homes t = k))), (4, .int (nI 0))]) (by rw [← bI_1 (c := ∀ t, t < 0 → _) (fun t ht => absurd ht (Nat.not_lt_zero t))]) ?_
  refine ml_isFree I A nv hn hnv v hv k nv 0 (by omega) ?_
  refine V.iload_n (j := 3) rfl dX8_isFree_55 ?_
  refine V.rz dX8_isFree_56 rfl (bI_bz _) ?_
  exact ⟨rfl, rfl, rfl⟩
set_option maxRecDepth 100000 in
set_option maxHeartbeats 4000000 in
theorem ml_isJoined {G : am_G} {Fn : Array Value → State → List Frame → State → Prop} (I A : Nat → Nat → Int32) (ns : Nat) (hs : I mM 2 = nI ns) (hns : ns ≤ 60) (v u : Nat) : ∀ (m : Nat) (i : Nat), i + m = ns → V G MX8_isJoined (am_R 0 0 0 0) Fn 0 0 85 [(0, .ref mM), (1, .int (nI v)), (2, .int (nI u)), (3, .int (bI (∃ t, t < ns ∧ mz_jn (A m_ops) (A m_first) (A m_second) (nI v) (nI u) t)))] [] (hp I A) → V G MX8_isJoined (am_R 0 0 0 0) Fn 0 0 5 [(0, .ref mM), (1, .int (nI v)), (2, .int (nI u)), (3, .int (bI (∃ t, t < i ∧ mz_jn (A m_ops) (A m_first) (A m_second) (nI v) (nI u) t))), (4, .int (nI i))] [] (hp I A) := by
  intro m
  induction m with
  | zero =>
    intro i hi0 hk
    obtain rfl : ns = i := by omega
    refine V.iload (j := 4) rfl dX8_isJoined_5 ?_
    refine V.aload_n (j := 0) rfl dX8_isJoined_7 ?_
    refine V.geti (v := nI ns) dX8_isJoined_8 fX8_95 rfl rfl hs ?_
    refine V.icmp_geN (tgt := 85) dX8_isJoined_11 (by decide) (by omega) (by omega) (fun c1 => ?_) (fun c1 => ?_)
    · refine V.fewer [0, 1, 2, 3] rfl ?_
      exact hk
    · exact absurd c1 (by omega)
  | succ m ih =>
    intro i hi0 hk
    refine V.iload (j := 4) rfl dX8_isJoined_5 ?_
    refine V.aload_n (j := 0) rfl dX8_isJoined_7 ?_
    refine V.geti (v := nI ns) dX8_isJoined_8 fX8_95 rfl rfl hs ?_
    refine V.icmp_geN (tgt := 85) dX8_isJoined_11 (by decide) (by omega) (by omega) (fun c2 => ?_) (fun c2 => ?_)
    · exact absurd c2 (by omega)
    · refine V.iload_n (j := 3) rfl dX8_isJoined_14 ?_
      have K3 : V G MX8_isJoined (am_R 0 0 0 0) Fn 0 0 78 [(0, .ref mM), (1, .int (nI v)), (2, .int (nI u)), (3, .int (bI (∃ t, t < i ∧ mz_jn (A m_ops) (A m_first) (A m_second) (nI v) (nI u) t))), (4, .int (nI i))] [.int (bI (∃ t, t < i + 1 ∧ mz_jn (A m_ops) (A m_first) (A m_second) (nI v) (nI u) t))] (hp I A) := by
        refine V.istore_n (ls' := [(0, .ref mM), (1, .int (nI v)), (2, .int (nI u)), (3, .int (bI (∃ t, t < i + 1 ∧ mz_jn (A m_ops) (A m_first) (A m_second) (nI v) (nI u) t))), (4, .int (nI i))]) dX8_isJoined_78 (by decide) rfl ?_
        refine V.iincN (ls' := [(0, .ref mM), (1, .int (nI v)), (2, .int (nI u)), (3, .int (bI (∃ t, t < i + 1 ∧ mz_jn (A m_ops) (A m_first) (A m_second) (nI v) (nI u) t))), (4, .int (nI (i + 1)))]) dX8_isJoined_79 (j := 4) rfl (by decide) rfl ?_
        refine V.goto (tgt := 5) dX8_isJoined_82 (by decide) ?_
        exact ih (i + 1) (by omega) hk
      refine V.if_ne (tgt := 73) dX8_isJoined_15 (by decide) (fun c4 => ?_) (fun c4 => ?_)
      · refine V.iconst (v := nI 1) (by decide) dX8_isJoined_73 ?_
        refine V.goto (tgt := 78) dX8_isJoined_74 (by decide) ?_
        exact V.st (congrArg (fun x => [Value.int x]) (bI_1 (by obtain ⟨t, h1, h2⟩ := bI_nz c4; exact ⟨t, by omega, h2⟩))) K3
      · refine V.aload_n (j := 0) rfl dX8_isJoined_18 ?_
        refine V.getr (q := m_ops) dX8_isJoined_19 fX8_13 rfl rfl ?_
        refine V.iload (j := 4) rfl dX8_isJoined_22 ?_
        refine V.lda (v := A m_ops i) dX8_isJoined_24 rfl (by omega) (by decide) rfl ?_
        refine V.iconst (v := nI 1) (by decide) dX8_isJoined_25 ?_
        refine V.icmp_ne (tgt := 77) dX8_isJoined_26 (by decide) (fun c5 => ?_) (fun c5 => ?_)
        · refine V.iconst (v := nI 0) (by decide) dX8_isJoined_77 ?_
          exact V.st (congrArg (fun x => [Value.int x]) (bI_0 (ex_no (bI_z c4) (fun y => c5 y.1)))) K3
        · refine V.aload_n (j := 0) rfl dX8_isJoined_29 ?_
          refine V.getr (q := m_first) dX8_isJoined_30 fX8_16 rfl rfl ?_
          refine V.iload (j := 4) rfl dX8_isJoined_33 ?_
          refine V.lda (v := A m_first i) dX8_isJoined_35 rfl (by omega) (by decide) rfl ?_
          refine V.iload_n (j := 1) rfl dX8_isJoined_36 ?_
          refine V.icmp_ne (tgt := 51) dX8_isJoined_37 (by decide) (fun c6 => ?_) (fun c6 => ?_)
          · refine V.aload_n (j := 0) rfl dX8_isJoined_51 ?_
            refine V.getr (q := m_first) dX8_isJoined_52 fX8_16 rfl rfl ?_
            refine V.iload (j := 4) rfl dX8_isJoined_55 ?_
            refine V.lda (v := A m_first i) dX8_isJoined_57 rfl (by omega) (by decide) rfl ?_
            refine V.iload_n (j := 2) rfl dX8_isJoined_58 ?_
            refine V.icmp_ne (tgt := 77) dX8_isJoined_59 (by decide) (fun c7 => ?_) (fun c7 => ?_)
            · refine V.iconst (v := nI 0) (by decide) dX8_isJoined_77 ?_
              exact V.st (congrArg (fun x => [Value.int x]) (bI_0 (ex_no (bI_z c4) (fun y => y.2.elim (fun y => c6 y.1) (fun y => c7 y.1))))) K3
            · refine V.aload_n (j := 0) rfl dX8_isJoined_62 ?_
              refine V.getr (q := m_second) dX8_isJoined_63 fX8_19 rfl rfl ?_
              refine V.iload (j := 4) rfl dX8_isJoined_66 ?_
              refine V.lda (v := A m_second i) dX8_isJoined_68 rfl (by omega) (by decide) rfl ?_
              refine V.iload_n (j := 1) rfl dX8_isJoined_69 ?_
              refine V.icmp_ne (tgt := 77) dX8_isJoined_70 (by decide) (fun c8 => ?_) (fun c8 => ?_)
              · refine V.iconst (v := nI 0) (by decide) dX8_isJoined_77 ?_
                exact V.st (congrArg (fun x => [Value.int x]) (bI_0 (ex_no (bI_z c4) (fun y => y.2.elim (fun y => c6 y.1) (fun y => c8 y.2))))) K3
              · refine V.iconst (v := nI 1) (by decide) dX8_isJoined_73 ?_
                refine V.goto (tgt := 78) dX8_isJoined_74 (by decide) ?_
                exact V.st (congrArg (fun x => [Value.int x]) (bI_1 ⟨i, by omega, ⟨c5, Or.inr ⟨c7, c8⟩⟩⟩)) K3
          · refine V.aload_n (j := 0) rfl dX8_isJoined_40 ?_
            refine V.getr (q := m_second) dX8_isJoined_41 fX8_19 rfl rfl ?_
            refine V.iload (j := 4) rfl dX8_isJoined_44 ?_
            refine V.lda (v := A m_second i) dX8_isJoined_46 rfl (by omega) (by decide) rfl ?_
            refine V.iload_n (j := 2) rfl dX8_isJoined_47 ?_
            refine V.icmp_eq (tgt := 73) dX8_isJoined_48 (by decide) (fun c9 => ?_) (fun c9 => ?_)
            · refine V.iconst (v := nI 1) (by decide) dX8_isJoined_73 ?_
              refine V.goto (tgt := 78) dX8_isJoined_74 (by decide) ?_
              exact V.st (congrArg (fun x => [Value.int x]) (bI_1 ⟨i, by omega, ⟨c5, Or.inl ⟨c6, c9⟩⟩⟩)) K3
            · refine V.aload_n (j := 0) rfl dX8_isJoined_51 ?_
              refine V.getr (q := m_first) dX8_isJoined_52 fX8_16 rfl rfl ?_
              refine V.iload (j := 4) rfl dX8_isJoined_55 ?_
              refine V.lda (v := A m_first i) dX8_isJoined_57 rfl (by omega) (by decide) rfl ?_
              refine V.iload_n (j := 2) rfl dX8_isJoined_58 ?_
              refine V.icmp_ne (tgt := 77) dX8_isJoined_59 (by decide) (fun c10 => ?_) (fun c10 => ?_)
              · refine V.iconst (v := nI 0) (by decide) dX8_isJoined_77 ?_
                exact V.st (congrArg (fun x => [Value.int x]) (bI_0 (ex_no (bI_z c4) (fun y => y.2.elim (fun y => c9 y.2) (fun y => c10 y.1))))) K3
              · refine V.aload_n (j := 0) rfl dX8_isJoined_62 ?_
                refine V.getr (q := m_second) dX8_isJoined_63 fX8_19 rfl rfl ?_
                refine V.iload (j := 4) rfl dX8_isJoined_66 ?_
                refine V.lda (v := A m_second i) dX8_isJoined_68 rfl (by omega) (by decide) rfl ?_
                refine V.iload_n (j := 1) rfl dX8_isJoined_69 ?_
                refine V.icmp_ne (tgt := 77) dX8_isJoined_70 (by decide) (fun c11 => ?_) (fun c11 => ?_)
                · refine V.iconst (v := nI 0) (by decide) dX8_isJoined_77 ?_
                  exact V.st (congrArg (fun x => [Value.int x]) (bI_0 (ex_no (bI_z c4) (fun y => y.2.elim (fun y => c9 y.2) (fun y => c11 y.2))))) K3
                · refine V.iconst (v := nI 1) (by decide) dX8_isJoined_73 ?_
                  refine V.goto (tgt := 78) dX8_isJoined_74 (by decide) ?_
                  exact V.st (congrArg (fun x => [Value.int x]) (bI_1 ⟨i, by omega, ⟨c5, Or.inr ⟨c10, c11⟩⟩⟩)) K3
set_option maxRecDepth 100000 in
set_option maxHeartbeats 4000000 in
theorem md_isJoined {G : am_G} (I A : Nat → Nat → Int32) (ns : Nat) (hs : I mM 2 = nI ns) (hns : ns ≤ 60) (v u : Nat) : Cm G MX8_isJoined 0 0 [.ref mM, .int (nI v), .int (nI u)] I A (fun r I' A' => r = some (.int (bI (mz_joined ns (A m_ops) (A m_first) (A m_second) (nI v) (nI u)))) ∧ I = I' ∧ A = A') := by
  refine Cm.of (by decide) (Nat.le_of_ble_eq_true rfl) rfl ?_
  show V G MX8_isJoined (am_R 0 0 0 0) _ 0 0 0 [(0, .ref mM), (1, .int (nI v)), (2, .int (nI u))] [] (hp I A)
  refine V.iconst (v := nI 0) (by decide) dX8_isJoined_0 ?_
  refine V.istore_n (ls' := [(0, .ref mM), (1, .int (nI v)), (2, .int (nI u)), (3, .int (nI 0))]) dX8_isJoined_1 (by decide) rfl ?_
  refine V.iconst (v := nI 0) (by decide) dX8_isJoined_2 ?_
  refine V.istore (ls' := [(0, .ref mM), (1, .int (nI v)), (2, .int (nI u)), (3, .int (nI 0)), (4, .int (nI 0))]) dX8_isJoined_3 (by decide) rfl ?_
  refine V.lse (ls' := [(0, .ref mM), (1, .int (nI v)), (2, .int (nI u)), (3, .int (bI (∃ t, t < 0 ∧ mz_jn (A m_ops) (A m_first) (A m_second) (nI v) (nI u) t))), (4, .int (nI 0))]) (by rw [← bI_0 (c := ∃ t, t < 0 ∧ _) (fun z => by obtain ⟨t, h1, h2⟩ := z; omega)]) ?_
  refine ml_isJoined I A ns hs hns v u ns 0 (by omega) ?_
  refine V.iload_n (j := 3) rfl dX8_isJoined_85 ?_
  refine V.rz dX8_isJoined_86 rfl (bI_bz _) ?_
  exact ⟨rfl, rfl, rfl⟩
end
section
theorem nI_nm1 {n : Nat} (h : n < 2 ^ 31) : ¬ nI n = (-1) := fun q => by
  have h1 := nI_toInt h
  rw [q] at h1
  have h2 : ((-1 : Int32)).toInt = -1 := by decide
  omega
/-- two values meet: each gets the other's bit -/
noncomputable def mz_wU (c : Prop) (v u : Nat) (w : Nat → Int32) : Nat → Int32 := @ite _ c (Classical.propDecidable c) (upd (upd w v (w v ||| nI 1 <<< (nI u &&& 31))) u ((upd w v (w v ||| nI 1 <<< (nI u &&& 31))) u ||| nI 1 <<< (nI v &&& 31))) w
theorem mz_wU_t {c : Prop} {v u : Nat} {w : Nat → Int32} (h : c) : (upd (upd w v (w v ||| nI 1 <<< (nI u &&& 31))) u ((upd w v (w v ||| nI 1 <<< (nI u &&& 31))) u ||| nI 1 <<< (nI v &&& 31))) = mz_wU c v u w := (if_pos h).symm
theorem mz_wU_f {c : Prop} {v u : Nat} {w : Nat → Int32} (h : ¬ c) : w = mz_wU c v u w := (if_neg h).symm
/-- value u is in v's way by step s -/
def mz_cC (op fb cl bh : Nat → Int32) (s v u : Nat) : Prop := ¬ u = v ∧ cl u = cl v ∧ ((bh s >>> (nI u &&& 31)) &&& nI 1) = nI 1 ∧ ¬ (op s = nI 1 ∧ nI u = fb s)
noncomputable def mz_wL (op fb cl bh : Nat → Int32) (s v : Nat) : Nat → Nat → (Nat → Int32) → Nat → Int32
  | 0, _, w => w
  | m + 1, u, w => mz_wL op fb cl bh s v m (u + 1) (mz_wU (mz_cC op fb cl bh s v u) v u w)
/-- one more at the place that a value tells, if there is one -/
def mz_inc (g : Nat → Int32) (v : Int32) : Nat → Int32 := if v = (-1) then g else upd g v.toNatClampNeg (g v.toNatClampNeg + nI 1)
theorem mz_inc_m {g : Nat → Int32} : mz_inc g (-1) = g := if_pos rfl
theorem mz_inc_n {g : Nat → Int32} {b : Nat} (h : b < 2 ^ 31) : mz_inc g (nI b) = upd g b (g b + nI 1) := by
  unfold mz_inc
  rw [if_neg (nI_nm1 h), nI_clamp h]
noncomputable def mz_mW (nv : Nat) (op fa fb cl bh : Nat → Int32) (s : Nat) (w : Nat → Int32) : Nat → Int32 := if mz_anew op fa s = (-1) then w else mz_wL op fb cl bh s (mz_anew op fa s).toNatClampNeg nv 0 w
def mz_mG (op fa fb fc : Nat → Int32) (s : Nat) (g : Nat → Int32) : Nat → Int32 := mz_inc (mz_inc (mz_inc g (mz_anew op fa s)) (mz_tak0 op fa fb s)) (mz_tak1 op fb fc s)
noncomputable def mz_meetW (nv : Nat) (op fa fb cl bh : Nat → Int32) : Nat → Nat → (Nat → Int32) → Nat → Int32
  | 0, _, w => w
  | m + 1, s, w => mz_meetW nv op fa fb cl bh m (s + 1) (mz_mW nv op fa fb cl bh s w)
def mz_meetG (op fa fb fc : Nat → Int32) : Nat → Nat → (Nat → Int32) → Nat → Int32
  | 0, _, g => g
  | m + 1, s, g => mz_meetG op fa fb fc m (s + 1) (mz_mG op fa fb fc s g)
set_option maxRecDepth 100000 in
set_option maxHeartbeats 4000000 in
theorem ml_meet1 {G : am_G} {Fn : Array Value → State → List Frame → State → Prop} (I A : Nat → Nat → Int32) (nv : Nat) (hn : I mM 0 = nI nv) (hnv : nv ≤ 24) : ∀ (m : Nat) (i : Nat) (f : Nat → Int32) (g : Nat → Int32), i + m = nv → V G MX8_meet (am_R 1 23 0 0) Fn 0 0 30 [(0, .ref mM), (1, .int (nI nv))] [] (hp I (upA (upA A m_way (mz_fill m i f)) m_weights (mz_fill m i g))) → V G MX8_meet (am_R 1 23 0 0) Fn 0 0 2 [(0, .ref mM), (1, .int (nI i))] [] (hp I (upA (upA A m_way (f)) m_weights (g))) := by
  intro m
  induction m with
  | zero =>
    intro i f g hi0 hk
    obtain rfl : nv = i := by omega
    refine V.iload_n (j := 1) rfl dX8_meet_2 ?_
    refine V.aload_n (j := 0) rfl dX8_meet_3 ?_
    refine V.geti (v := nI nv) dX8_meet_4 fX8_79 rfl rfl hn ?_
    refine V.icmp_geN (tgt := 30) dX8_meet_7 (by decide) (by omega) (by omega) (fun c1 => ?_) (fun c1 => ?_)
    · exact hk
    · exact absurd c1 (by omega)
  | succ m ih =>
    intro i f g hi0 hk
    refine V.iload_n (j := 1) rfl dX8_meet_2 ?_
    refine V.aload_n (j := 0) rfl dX8_meet_3 ?_
    refine V.geti (v := nI nv) dX8_meet_4 fX8_79 rfl rfl hn ?_
    refine V.icmp_geN (tgt := 30) dX8_meet_7 (by decide) (by omega) (by omega) (fun c2 => ?_) (fun c2 => ?_)
    · exact absurd c2 (by omega)
    · refine V.aload_n (j := 0) rfl dX8_meet_10 ?_
      refine V.getr (q := m_way) dX8_meet_11 fX8_37 rfl rfl ?_
      refine V.iload_n (j := 1) rfl dX8_meet_14 ?_
      refine V.iconst (v := nI 0) (by decide) dX8_meet_15 ?_
      refine V.sta (g := upd f i (nI 0)) dX8_meet_16 rfl (by omega) (by decide) rfl ?_
      refine V.hpe (A' := (upA (upA A m_way (upd f i (nI 0))) m_weights (g))) rfl (upA_r2 (by decide)) ?_
      refine V.aload_n (j := 0) rfl dX8_meet_17 ?_
      refine V.getr (q := m_weights) dX8_meet_18 fX8_40 rfl rfl ?_
      refine V.iload_n (j := 1) rfl dX8_meet_21 ?_
      refine V.iconst (v := nI 0) (by decide) dX8_meet_22 ?_
      refine V.sta (g := upd g i (nI 0)) dX8_meet_23 rfl (by omega) (by decide) rfl ?_
      refine V.hpe (A' := (upA (upA A m_way (upd f i (nI 0))) m_weights (upd g i (nI 0)))) rfl upA_u ?_
      refine V.iincN (ls' := [(0, .ref mM), (1, .int (nI (i + 1)))]) dX8_meet_24 (j := 1) rfl (by decide) rfl ?_
      refine V.goto (tgt := 2) dX8_meet_27 (by decide) ?_
      exact ih (i + 1) _ _ (by omega) hk
set_option maxRecDepth 100000 in
set_option maxHeartbeats 4000000 in
theorem ml_meet2 {G : am_G} {Fn : Array Value → State → List Frame → State → Prop} (I A : Nat → Nat → Int32) (nv : Nat) (hn : I mM 0 = nI nv) (hnv : nv ≤ 24) (s : Nat) (hss : s < 60) (a : Nat) (ha : a < nv) (g : Nat → Int32) : ∀ (m : Nat) (i : Nat) (f : Nat → Int32), i + m = nv → V G MX8_meet (am_R 1 23 0 0) Fn 0 0 157 [(0, .ref mM), (1, .int (nI s)), (2, .int (nI a))] [] (hp I (upA (upA A m_way (mz_wL (A m_ops) (A m_second) (A m_classes) (A m_behind) s a m i f)) m_weights g)) → V G MX8_meet (am_R 1 23 0 0) Fn 0 0 48 [(0, .ref mM), (1, .int (nI s)), (2, .int (nI a)), (3, .int (nI i))] [] (hp I (upA (upA A m_way (f)) m_weights (g))) := by
  intro m
  induction m with
  | zero =>
    intro i f hi0 hk
    obtain rfl : nv = i := by omega
    refine V.iload_n (j := 3) rfl dX8_meet_48 ?_
    refine V.aload_n (j := 0) rfl dX8_meet_49 ?_
    refine V.geti (v := nI nv) dX8_meet_50 fX8_79 rfl rfl hn ?_
    refine V.icmp_geN (tgt := 157) dX8_meet_53 (by decide) (by omega) (by omega) (fun c1 => ?_) (fun c1 => ?_)
    · refine V.fewer [0, 1, 2] rfl ?_
      exact hk
    · exact absurd c1 (by omega)
  | succ m ih =>
    intro i f hi0 hk
    refine V.iload_n (j := 3) rfl dX8_meet_48 ?_
    refine V.aload_n (j := 0) rfl dX8_meet_49 ?_
    refine V.geti (v := nI nv) dX8_meet_50 fX8_79 rfl rfl hn ?_
    refine V.icmp_geN (tgt := 157) dX8_meet_53 (by decide) (by omega) (by omega) (fun c2 => ?_) (fun c2 => ?_)
    · exact absurd c2 (by omega)
    · refine V.iload_n (j := 2) rfl dX8_meet_56 ?_
      refine V.iconst (v := (-1)) (by decide) dX8_meet_57 ?_
      refine V.icmp_eq (tgt := 157) dX8_meet_58 (by decide) (fun z => absurd z (nI_nm1 (by omega))) (fun _ => ?_)
      refine V.aload_n (j := 0) rfl dX8_meet_61 ?_
      refine V.getr (q := m_ops) dX8_meet_62 fX8_13 rfl rfl ?_
      refine V.iload_n (j := 1) rfl dX8_meet_65 ?_
      refine V.lda (v := A m_ops s) dX8_meet_66 rfl (by omega) (by decide) rfl ?_
      refine V.iconst (v := nI 1) (by decide) dX8_meet_67 ?_
      have K4 : V G MX8_meet (am_R 1 23 0 0) Fn 0 0 86 [(0, .ref mM), (1, .int (nI s)), (2, .int (nI a)), (3, .int (nI i))] [.int (bI (A m_ops s = nI 1 ∧ nI i = A m_second s))] (hp I (upA (upA A m_way (f)) m_weights (g))) := by
        refine V.istore (ls' := [(0, .ref mM), (1, .int (nI s)), (2, .int (nI a)), (3, .int (nI i)), (4, .int (bI (A m_ops s = nI 1 ∧ nI i = A m_second s)))]) dX8_meet_86 (by decide) rfl ?_
        have K5 : V G MX8_meet (am_R 1 23 0 0) Fn 0 0 151 [(0, .ref mM), (1, .int (nI s)), (2, .int (nI a)), (3, .int (nI i)), (4, .int (bI (A m_ops s = nI 1 ∧ nI i = A m_second s)))] [] (hp I (upA (upA A m_way (mz_wU (mz_cC (A m_ops) (A m_second) (A m_classes) (A m_behind) s a i) a i f)) m_weights (g))) := by
          refine V.iincN (ls' := [(0, .ref mM), (1, .int (nI s)), (2, .int (nI a)), (3, .int (nI (i + 1))), (4, .int (bI (A m_ops s = nI 1 ∧ nI i = A m_second s)))]) dX8_meet_151 (j := 3) rfl (by decide) rfl ?_
          refine V.goto (tgt := 48) dX8_meet_154 (by decide) ?_
          refine V.fewer [0, 1, 2, 3] rfl ?_
          exact ih (i + 1) _ (by omega) hk
        refine V.iload_n (j := 3) rfl dX8_meet_88 ?_
        refine V.iload_n (j := 2) rfl dX8_meet_89 ?_
        refine V.icmp_eqN (tgt := 151) dX8_meet_90 (by decide) (by omega) (by omega) (fun c6 => ?_) (fun c6 => ?_)
        · exact V.hpe rfl (congrArg (fun x => upA (upA A m_way x) m_weights g) (mz_wU_f (fun z => z.1 c6))) K5
        · refine V.aload_n (j := 0) rfl dX8_meet_93 ?_
          refine V.getr (q := m_classes) dX8_meet_94 fX8_7 rfl rfl ?_
          refine V.iload_n (j := 3) rfl dX8_meet_97 ?_
          refine V.lda (v := A m_classes i) dX8_meet_98 rfl (by omega) (by decide) rfl ?_
          refine V.aload_n (j := 0) rfl dX8_meet_99 ?_
          refine V.getr (q := m_classes) dX8_meet_100 fX8_7 rfl rfl ?_
          refine V.iload_n (j := 2) rfl dX8_meet_103 ?_
          refine V.lda (v := A m_classes a) dX8_meet_104 rfl (by omega) (by decide) rfl ?_
          refine V.icmp_ne (tgt := 151) dX8_meet_105 (by decide) (fun c7 => ?_) (fun c7 => ?_)
          · exact V.hpe rfl (congrArg (fun x => upA (upA A m_way x) m_weights g) (mz_wU_f (fun z => c7 z.2.1))) K5
          · refine V.aload_n (j := 0) rfl dX8_meet_108 ?_
            refine V.getr (q := m_behind) dX8_meet_109 fX8_34 rfl rfl ?_
            refine V.iload_n (j := 1) rfl dX8_meet_112 ?_
            refine V.lda (v := A m_behind s) dX8_meet_113 rfl (by omega) (by decide) rfl ?_
            refine V.iload_n (j := 3) rfl dX8_meet_114 ?_
            refine V.ishr dX8_meet_115 ?_
            refine V.iconst (v := nI 1) (by decide) dX8_meet_116 ?_
            refine V.iand dX8_meet_117 ?_
            refine V.iconst (v := nI 1) (by decide) dX8_meet_118 ?_
            refine V.icmp_ne (tgt := 151) dX8_meet_119 (by decide) (fun c8 => ?_) (fun c8 => ?_)
            · exact V.hpe rfl (congrArg (fun x => upA (upA A m_way x) m_weights g) (mz_wU_f (fun z => c8 z.2.2.1))) K5
            · refine V.iload (j := 4) rfl dX8_meet_122 ?_
              refine V.if_ne (tgt := 151) dX8_meet_124 (by decide) (fun c9 => ?_) (fun c9 => ?_)
              · exact V.hpe rfl (congrArg (fun x => upA (upA A m_way x) m_weights g) (mz_wU_f (fun z => z.2.2.2 (bI_nz c9)))) K5
              · refine V.aload_n (j := 0) rfl dX8_meet_127 ?_
                refine V.getr (q := m_way) dX8_meet_128 fX8_37 rfl rfl ?_
                refine V.iload_n (j := 2) rfl dX8_meet_131 ?_
                refine V.dup2 rfl rfl dX8_meet_132 ?_
                refine V.lda (v := f a) dX8_meet_133 rfl (by omega) (by decide) rfl ?_
                refine V.iconst (v := nI 1) (by decide) dX8_meet_134 ?_
                refine V.iload_n (j := 3) rfl dX8_meet_135 ?_
                refine V.ishl dX8_meet_136 ?_
                refine V.ior dX8_meet_137 ?_
                refine V.sta (g := upd f a ((f a) ||| ((nI 1) <<< ((nI i) &&& 31)))) dX8_meet_138 rfl (by omega) (by decide) rfl ?_
                refine V.hpe (A' := (upA (upA A m_way (upd f a ((f a) ||| ((nI 1) <<< ((nI i) &&& 31))))) m_weights (g))) rfl (upA_r2 (by decide)) ?_
                refine V.aload_n (j := 0) rfl dX8_meet_139 ?_
                refine V.getr (q := m_way) dX8_meet_140 fX8_37 rfl rfl ?_
                refine V.iload_n (j := 3) rfl dX8_meet_143 ?_
                refine V.dup2 rfl rfl dX8_meet_144 ?_
                refine V.lda (v := (upd f a ((f a) ||| ((nI 1) <<< ((nI i) &&& 31)))) i) dX8_meet_145 rfl (by omega) (by decide) rfl ?_
                refine V.iconst (v := nI 1) (by decide) dX8_meet_146 ?_
                refine V.iload_n (j := 2) rfl dX8_meet_147 ?_
                refine V.ishl dX8_meet_148 ?_
                refine V.ior dX8_meet_149 ?_
                refine V.sta (g := upd (upd f a ((f a) ||| ((nI 1) <<< ((nI i) &&& 31)))) i (((upd f a ((f a) ||| ((nI 1) <<< ((nI i) &&& 31)))) i) ||| ((nI 1) <<< ((nI a) &&& 31)))) dX8_meet_150 rfl (by omega) (by decide) rfl ?_
                refine V.hpe (A' := (upA (upA A m_way (upd (upd f a ((f a) ||| ((nI 1) <<< ((nI i) &&& 31)))) i (((upd f a ((f a) ||| ((nI 1) <<< ((nI i) &&& 31)))) i) ||| ((nI 1) <<< ((nI a) &&& 31))))) m_weights (g))) rfl (upA_r2 (by decide)) ?_
                exact V.hpe rfl (congrArg (fun x => upA (upA A m_way x) m_weights g) (mz_wU_t ⟨c6, c7, c8, bI_z c9⟩)) K5
      refine V.icmp_ne (tgt := 85) dX8_meet_68 (by decide) (fun c10 => ?_) (fun c10 => ?_)
      · refine V.iconst (v := nI 0) (by decide) dX8_meet_85 ?_
        exact V.st (congrArg (fun x => [Value.int x]) (bI_0 (fun z => c10 z.1))) K4
      · refine V.iload_n (j := 3) rfl dX8_meet_71 ?_
        refine V.aload_n (j := 0) rfl dX8_meet_72 ?_
        refine V.getr (q := m_second) dX8_meet_73 fX8_19 rfl rfl ?_
        refine V.iload_n (j := 1) rfl dX8_meet_76 ?_
        refine V.lda (v := A m_second s) dX8_meet_77 rfl (by omega) (by decide) rfl ?_
        refine V.icmp_ne (tgt := 85) dX8_meet_78 (by decide) (fun c11 => ?_) (fun c11 => ?_)
        · refine V.iconst (v := nI 0) (by decide) dX8_meet_85 ?_
          exact V.st (congrArg (fun x => [Value.int x]) (bI_0 (fun z => c11 z.2))) K4
        · refine V.iconst (v := nI 1) (by decide) dX8_meet_81 ?_
          refine V.goto (tgt := 86) dX8_meet_82 (by decide) ?_
          exact V.st (congrArg (fun x => [Value.int x]) (bI_1 ⟨c10, c11⟩)) K4
theorem mz_mW_m {nv : Nat} {op fa fb cl bh : Nat → Int32} {s : Nat} {w : Nat → Int32} (h : mz_anew op fa s = (-1)) : w = mz_mW nv op fa fb cl bh s w := by unfold mz_mW; rw [if_pos h]
theorem mz_mW_n {nv : Nat} {op fa fb cl bh : Nat → Int32} {s a : Nat} {w : Nat → Int32} (h : mz_anew op fa s = nI a) (ha : a < 2 ^ 31) : mz_wL op fb cl bh s a nv 0 w = mz_mW nv op fa fb cl bh s w := by
  unfold mz_mW
  rw [if_neg (by rw [h]; exact nI_nm1 ha), h, nI_clamp ha]
set_option maxRecDepth 100000 in
set_option maxHeartbeats 4000000 in
theorem ml_meet3 {G : am_G} {Fn : Array Value → State → List Frame → State → Prop} (I A : Nat → Nat → Int32) (nv : Nat) (hn : I mM 0 = nI nv) (hnv : nv ≤ 24) (ns : Nat) (hs : I mM 2 = nI ns) (hns : ns ≤ 60) (hA : ∀ s, s < ns → mz_anew (A m_ops) (A m_first) s = (-1) ∨ ∃ a, a < nv ∧ mz_anew (A m_ops) (A m_first) s = nI a) (h0 : ∀ s, s < ns → mz_tak0 (A m_ops) (A m_first) (A m_second) s = (-1) ∨ ∃ a, a < nv ∧ mz_tak0 (A m_ops) (A m_first) (A m_second) s = nI a) (h1 : ∀ s, s < ns → mz_tak1 (A m_ops) (A m_second) (A m_third) s = (-1) ∨ ∃ a, a < nv ∧ mz_tak1 (A m_ops) (A m_second) (A m_third) s = nI a) : ∀ (m : Nat) (s : Nat) (f : Nat → Int32) (g : Nat → Int32), s + m = ns → V G MX8_meet (am_R 1 23 0 0) Fn 0 0 216 [(0, .ref mM)] [] (hp I (upA (upA A m_way (mz_meetW nv (A m_ops) (A m_first) (A m_second) (A m_classes) (A m_behind) m s f)) m_weights (mz_meetG (A m_ops) (A m_first) (A m_second) (A m_third) m s g))) → V G MX8_meet (am_R 1 23 0 0) Fn 0 0 32 [(0, .ref mM), (1, .int (nI s))] [] (hp I (upA (upA A m_way (f)) m_weights (g))) := by
  intro m
  induction m with
  | zero =>
    intro s f g hi0 hk
    obtain rfl : ns = s := by omega
    refine V.iload_n (j := 1) rfl dX8_meet_32 ?_
    refine V.aload_n (j := 0) rfl dX8_meet_33 ?_
    refine V.geti (v := nI ns) dX8_meet_34 fX8_95 rfl rfl hs ?_
    refine V.icmp_geN (tgt := 216) dX8_meet_37 (by decide) (by omega) (by omega) (fun c1 => ?_) (fun c1 => ?_)
    · refine V.fewer [0] rfl ?_
      exact hk
    · exact absurd c1 (by omega)
  | succ m ih =>
    intro s f g hi0 hk
    refine V.iload_n (j := 1) rfl dX8_meet_32 ?_
    refine V.aload_n (j := 0) rfl dX8_meet_33 ?_
    refine V.geti (v := nI ns) dX8_meet_34 fX8_95 rfl rfl hs ?_
    refine V.icmp_geN (tgt := 216) dX8_meet_37 (by decide) (by omega) (by omega) (fun c2 => ?_) (fun c2 => ?_)
    · exact absurd c2 (by omega)
    · refine V.aload_n (j := 0) rfl dX8_meet_40 ?_
      refine V.iload_n (j := 1) rfl dX8_meet_41 ?_
      refine V.cV (As := [.int (nI s)]) (st := []) dX8_meet_42 sX8_106 iX8_anew lX8_anew rfl rfl (md_anew _ _ s (by omega)) ⟨by decide, by decide⟩ (Nat.le_of_ble_eq_true rfl) rfl (fun r I' A' hq => ?_)
      obtain ⟨rfl, rfl, rfl⟩ := hq
      refine V.st (st' := [.int (mz_anew (A m_ops) (A m_first) s)]) rfl ?_
      refine V.istore_n (ls' := [(0, .ref mM), (1, .int (nI s)), (2, .int (mz_anew (A m_ops) (A m_first) s))]) dX8_meet_45 (by decide) rfl ?_
      rcases hA s (by omega) with e1 | ⟨a, ha, e1⟩
      · refine V.lse (ls' := [(0, .ref mM), (1, .int (nI s)), (2, .int ((-1)))]) (by rw [e1]) ?_
        refine V.iconst (v := nI 0) (by decide) dX8_meet_46 ?_
        refine V.istore_n (ls' := [(0, .ref mM), (1, .int (nI s)), (2, .int ((-1))), (3, .int (nI 0))]) dX8_meet_47 (by decide) rfl ?_
        have K3 : V G MX8_meet (am_R 1 23 0 0) Fn 0 0 157 [(0, .ref mM), (1, .int (nI s)), (2, .int ((-1)))] [] (hp I (upA (upA A m_way (f)) m_weights (g))) := by
          refine V.iload_n (j := 2) rfl dX8_meet_157 ?_
          refine V.iconst (v := (-1)) (by decide) dX8_meet_158 ?_
          refine V.icmp_eq (tgt := 172) dX8_meet_159 (by decide) (fun _ => ?_) (fun z => absurd rfl z)
          refine V.iconst (v := nI 0) (by decide) dX8_meet_172 ?_
          refine V.istore_n (ls' := [(0, .ref mM), (1, .int (nI s)), (2, .int ((-1))), (3, .int (nI 0))]) dX8_meet_173 (by decide) rfl ?_
          refine V.iload_n (j := 3) rfl dX8_meet_174 ?_
          refine V.iconst (v := nI 2) (by decide) dX8_meet_175 ?_
          refine V.icmp_ge (tgt := 210) dX8_meet_176 (by decide) (fun z => absurd z (by decide)) (fun _ => ?_)
          refine V.aload_n (j := 0) rfl dX8_meet_179 ?_
          refine V.iload_n (j := 1) rfl dX8_meet_180 ?_
          refine V.iload_n (j := 3) rfl dX8_meet_181 ?_
          refine V.cV (As := [.int (nI s), .int (nI 0)]) (st := []) dX8_meet_182 sX8_98 iX8_taken lX8_taken rfl rfl (md_taken0 _ _ s (by omega)) ⟨by decide, by decide⟩ (Nat.le_of_ble_eq_true rfl) rfl (fun r I' A' hq => ?_)
          obtain ⟨rfl, rfl, rfl⟩ := hq
          refine V.st (st' := [.int (mz_tak0 (A m_ops) (A m_first) (A m_second) s)]) rfl ?_
          refine V.istore (ls' := [(0, .ref mM), (1, .int (nI s)), (2, .int ((-1))), (3, .int (nI 0)), (4, .int (mz_tak0 (A m_ops) (A m_first) (A m_second) s))]) dX8_meet_185 (by decide) rfl ?_
          rcases h0 s (by omega) with e2 | ⟨b, hb, e2⟩
          · refine V.lse (ls' := [(0, .ref mM), (1, .int (nI s)), (2, .int ((-1))), (3, .int (nI 0)), (4, .int ((-1)))]) (by rw [e2]) ?_
            refine V.iload (j := 4) rfl dX8_meet_187 ?_
            refine V.iconst (v := (-1)) (by decide) dX8_meet_189 ?_
            refine V.icmp_eq (tgt := 204) dX8_meet_190 (by decide) (fun _ => ?_) (fun z => absurd rfl z)
            refine V.iincN (ls' := [(0, .ref mM), (1, .int (nI s)), (2, .int ((-1))), (3, .int (nI 1)), (4, .int ((-1)))]) dX8_meet_204 (j := 3) rfl (by decide) rfl ?_
            refine V.goto (tgt := 174) dX8_meet_207 (by decide) ?_
            refine V.iload_n (j := 3) rfl dX8_meet_174 ?_
            refine V.iconst (v := nI 2) (by decide) dX8_meet_175 ?_
            refine V.icmp_ge (tgt := 210) dX8_meet_176 (by decide) (fun z => absurd z (by decide)) (fun _ => ?_)
            refine V.aload_n (j := 0) rfl dX8_meet_179 ?_
            refine V.iload_n (j := 1) rfl dX8_meet_180 ?_
            refine V.iload_n (j := 3) rfl dX8_meet_181 ?_
            refine V.cV (As := [.int (nI s), .int (nI 1)]) (st := []) dX8_meet_182 sX8_98 iX8_taken lX8_taken rfl rfl (md_taken1 _ _ s (by omega)) ⟨by decide, by decide⟩ (Nat.le_of_ble_eq_true rfl) rfl (fun r I' A' hq => ?_)
            obtain ⟨rfl, rfl, rfl⟩ := hq
            refine V.st (st' := [.int (mz_tak1 (A m_ops) (A m_second) (A m_third) s)]) rfl ?_
            refine V.istore (ls' := [(0, .ref mM), (1, .int (nI s)), (2, .int ((-1))), (3, .int (nI 1)), (4, .int (mz_tak1 (A m_ops) (A m_second) (A m_third) s))]) dX8_meet_185 (by decide) rfl ?_
            rcases h1 s (by omega) with e3 | ⟨c, hc, e3⟩
            · refine V.lse (ls' := [(0, .ref mM), (1, .int (nI s)), (2, .int ((-1))), (3, .int (nI 1)), (4, .int ((-1)))]) (by rw [e3]) ?_
              refine V.iload (j := 4) rfl dX8_meet_187 ?_
              refine V.iconst (v := (-1)) (by decide) dX8_meet_189 ?_
              refine V.icmp_eq (tgt := 204) dX8_meet_190 (by decide) (fun _ => ?_) (fun z => absurd rfl z)
              refine V.iincN (ls' := [(0, .ref mM), (1, .int (nI s)), (2, .int ((-1))), (3, .int (nI 2)), (4, .int ((-1)))]) dX8_meet_204 (j := 3) rfl (by decide) rfl ?_
              refine V.goto (tgt := 174) dX8_meet_207 (by decide) ?_
              refine V.iload_n (j := 3) rfl dX8_meet_174 ?_
              refine V.iconst (v := nI 2) (by decide) dX8_meet_175 ?_
              refine V.icmp_ge (tgt := 210) dX8_meet_176 (by decide) (fun _ => ?_) (fun z => absurd z (by decide))
              refine V.iincN (ls' := [(0, .ref mM), (1, .int (nI (s + 1))), (2, .int ((-1))), (3, .int (nI 2)), (4, .int ((-1)))]) dX8_meet_210 (j := 1) rfl (by decide) rfl ?_
              refine V.goto (tgt := 32) dX8_meet_213 (by decide) ?_
              refine V.fewer [0, 1] rfl ?_
              refine V.hpe (A' := (upA (upA A m_way (mz_mW nv (A m_ops) (A m_first) (A m_second) (A m_classes) (A m_behind) s f)) m_weights (mz_mG (A m_ops) (A m_first) (A m_second) (A m_third) s g))) rfl (congr (congrArg (fun x y => upA (upA A m_way x) m_weights y) (mz_mW_m e1)) (by unfold mz_mG; rw [e1, e2, e3]; simp only [mz_inc_m])) ?_
              exact ih (s + 1) _ _ (by omega) hk
            · refine V.lse (ls' := [(0, .ref mM), (1, .int (nI s)), (2, .int ((-1))), (3, .int (nI 1)), (4, .int (nI c))]) (by rw [e3]) ?_
              refine V.iload (j := 4) rfl dX8_meet_187 ?_
              refine V.iconst (v := (-1)) (by decide) dX8_meet_189 ?_
              refine V.icmp_eq (tgt := 204) dX8_meet_190 (by decide) (fun z => absurd z (nI_nm1 (by omega))) (fun _ => ?_)
              refine V.aload_n (j := 0) rfl dX8_meet_193 ?_
              refine V.getr (q := m_weights) dX8_meet_194 fX8_40 rfl rfl ?_
              refine V.iload (j := 4) rfl dX8_meet_197 ?_
              refine V.dup2 rfl rfl dX8_meet_199 ?_
              refine V.lda (v := g c) dX8_meet_200 rfl (by omega) (by decide) rfl ?_
              refine V.iconst (v := nI 1) (by decide) dX8_meet_201 ?_
              refine V.iadd dX8_meet_202 ?_
              refine V.sta (g := upd g c ((g c) + (nI 1))) dX8_meet_203 rfl (by omega) (by decide) rfl ?_
              refine V.hpe (A' := (upA (upA A m_way (f)) m_weights (upd g c ((g c) + (nI 1))))) rfl upA_u ?_
              refine V.iincN (ls' := [(0, .ref mM), (1, .int (nI s)), (2, .int ((-1))), (3, .int (nI 2)), (4, .int (nI c))]) dX8_meet_204 (j := 3) rfl (by decide) rfl ?_
              refine V.goto (tgt := 174) dX8_meet_207 (by decide) ?_
              refine V.iload_n (j := 3) rfl dX8_meet_174 ?_
              refine V.iconst (v := nI 2) (by decide) dX8_meet_175 ?_
              refine V.icmp_ge (tgt := 210) dX8_meet_176 (by decide) (fun _ => ?_) (fun z => absurd z (by decide))
              refine V.iincN (ls' := [(0, .ref mM), (1, .int (nI (s + 1))), (2, .int ((-1))), (3, .int (nI 2)), (4, .int (nI c))]) dX8_meet_210 (j := 1) rfl (by decide) rfl ?_
              refine V.goto (tgt := 32) dX8_meet_213 (by decide) ?_
              refine V.fewer [0, 1] rfl ?_
              refine V.hpe (A' := (upA (upA A m_way (mz_mW nv (A m_ops) (A m_first) (A m_second) (A m_classes) (A m_behind) s f)) m_weights (mz_mG (A m_ops) (A m_first) (A m_second) (A m_third) s g))) rfl (congr (congrArg (fun x y => upA (upA A m_way x) m_weights y) (mz_mW_m e1)) (by unfold mz_mG; rw [e1, e2, e3]; simp only [mz_inc_m, mz_inc_n (show c < 2 ^ 31 by omega)])) ?_
              exact ih (s + 1) _ _ (by omega) hk
          · refine V.lse (ls' := [(0, .ref mM), (1, .int (nI s)), (2, .int ((-1))), (3, .int (nI 0)), (4, .int (nI b))]) (by rw [e2]) ?_
            refine V.iload (j := 4) rfl dX8_meet_187 ?_
            refine V.iconst (v := (-1)) (by decide) dX8_meet_189 ?_
            refine V.icmp_eq (tgt := 204) dX8_meet_190 (by decide) (fun z => absurd z (nI_nm1 (by omega))) (fun _ => ?_)
            refine V.aload_n (j := 0) rfl dX8_meet_193 ?_
            refine V.getr (q := m_weights) dX8_meet_194 fX8_40 rfl rfl ?_
            refine V.iload (j := 4) rfl dX8_meet_197 ?_
            refine V.dup2 rfl rfl dX8_meet_199 ?_
            refine V.lda (v := g b) dX8_meet_200 rfl (by omega) (by decide) rfl ?_
            refine V.iconst (v := nI 1) (by decide) dX8_meet_201 ?_
            refine V.iadd dX8_meet_202 ?_
            refine V.sta (g := upd g b ((g b) + (nI 1))) dX8_meet_203 rfl (by omega) (by decide) rfl ?_
            refine V.hpe (A' := (upA (upA A m_way (f)) m_weights (upd g b ((g b) + (nI 1))))) rfl upA_u ?_
            refine V.iincN (ls' := [(0, .ref mM), (1, .int (nI s)), (2, .int ((-1))), (3, .int (nI 1)), (4, .int (nI b))]) dX8_meet_204 (j := 3) rfl (by decide) rfl ?_
            refine V.goto (tgt := 174) dX8_meet_207 (by decide) ?_
            refine V.iload_n (j := 3) rfl dX8_meet_174 ?_
            refine V.iconst (v := nI 2) (by decide) dX8_meet_175 ?_
            refine V.icmp_ge (tgt := 210) dX8_meet_176 (by decide) (fun z => absurd z (by decide)) (fun _ => ?_)
            refine V.aload_n (j := 0) rfl dX8_meet_179 ?_
            refine V.iload_n (j := 1) rfl dX8_meet_180 ?_
            refine V.iload_n (j := 3) rfl dX8_meet_181 ?_
            refine V.cV (As := [.int (nI s), .int (nI 1)]) (st := []) dX8_meet_182 sX8_98 iX8_taken lX8_taken rfl rfl (md_taken1 _ _ s (by omega)) ⟨by decide, by decide⟩ (Nat.le_of_ble_eq_true rfl) rfl (fun r I' A' hq => ?_)
            obtain ⟨rfl, rfl, rfl⟩ := hq
            refine V.st (st' := [.int (mz_tak1 (A m_ops) (A m_second) (A m_third) s)]) rfl ?_
            refine V.istore (ls' := [(0, .ref mM), (1, .int (nI s)), (2, .int ((-1))), (3, .int (nI 1)), (4, .int (mz_tak1 (A m_ops) (A m_second) (A m_third) s))]) dX8_meet_185 (by decide) rfl ?_
            rcases h1 s (by omega) with e3 | ⟨c, hc, e3⟩
            · refine V.lse (ls' := [(0, .ref mM), (1, .int (nI s)), (2, .int ((-1))), (3, .int (nI 1)), (4, .int ((-1)))]) (by rw [e3]) ?_
              refine V.iload (j := 4) rfl dX8_meet_187 ?_
              refine V.iconst (v := (-1)) (by decide) dX8_meet_189 ?_
              refine V.icmp_eq (tgt := 204) dX8_meet_190 (by decide) (fun _ => ?_) (fun z => absurd rfl z)
              refine V.iincN (ls' := [(0, .ref mM), (1, .int (nI s)), (2, .int ((-1))), (3, .int (nI 2)), (4, .int ((-1)))]) dX8_meet_204 (j := 3) rfl (by decide) rfl ?_
              refine V.goto (tgt := 174) dX8_meet_207 (by decide) ?_
              refine V.iload_n (j := 3) rfl dX8_meet_174 ?_
              refine V.iconst (v := nI 2) (by decide) dX8_meet_175 ?_
              refine V.icmp_ge (tgt := 210) dX8_meet_176 (by decide) (fun _ => ?_) (fun z => absurd z (by decide))
              refine V.iincN (ls' := [(0, .ref mM), (1, .int (nI (s + 1))), (2, .int ((-1))), (3, .int (nI 2)), (4, .int ((-1)))]) dX8_meet_210 (j := 1) rfl (by decide) rfl ?_
              refine V.goto (tgt := 32) dX8_meet_213 (by decide) ?_
              refine V.fewer [0, 1] rfl ?_
              refine V.hpe (A' := (upA (upA A m_way (mz_mW nv (A m_ops) (A m_first) (A m_second) (A m_classes) (A m_behind) s f)) m_weights (mz_mG (A m_ops) (A m_first) (A m_second) (A m_third) s g))) rfl (congr (congrArg (fun x y => upA (upA A m_way x) m_weights y) (mz_mW_m e1)) (by unfold mz_mG; rw [e1, e2, e3]; simp only [mz_inc_m, mz_inc_n (show b < 2 ^ 31 by omega)])) ?_
              exact ih (s + 1) _ _ (by omega) hk
            · refine V.lse (ls' := [(0, .ref mM), (1, .int (nI s)), (2, .int ((-1))), (3, .int (nI 1)), (4, .int (nI c))]) (by rw [e3]) ?_
              refine V.iload (j := 4) rfl dX8_meet_187 ?_
              refine V.iconst (v := (-1)) (by decide) dX8_meet_189 ?_
              refine V.icmp_eq (tgt := 204) dX8_meet_190 (by decide) (fun z => absurd z (nI_nm1 (by omega))) (fun _ => ?_)
              refine V.aload_n (j := 0) rfl dX8_meet_193 ?_
              refine V.getr (q := m_weights) dX8_meet_194 fX8_40 rfl rfl ?_
              refine V.iload (j := 4) rfl dX8_meet_197 ?_
              refine V.dup2 rfl rfl dX8_meet_199 ?_
              refine V.lda (v := (upd g b ((g b) + (nI 1))) c) dX8_meet_200 rfl (by omega) (by decide) rfl ?_
              refine V.iconst (v := nI 1) (by decide) dX8_meet_201 ?_
              refine V.iadd dX8_meet_202 ?_
              refine V.sta (g := upd (upd g b ((g b) + (nI 1))) c (((upd g b ((g b) + (nI 1))) c) + (nI 1))) dX8_meet_203 rfl (by omega) (by decide) rfl ?_
              refine V.hpe (A' := (upA (upA A m_way (f)) m_weights (upd (upd g b ((g b) + (nI 1))) c (((upd g b ((g b) + (nI 1))) c) + (nI 1))))) rfl upA_u ?_
              refine V.iincN (ls' := [(0, .ref mM), (1, .int (nI s)), (2, .int ((-1))), (3, .int (nI 2)), (4, .int (nI c))]) dX8_meet_204 (j := 3) rfl (by decide) rfl ?_
              refine V.goto (tgt := 174) dX8_meet_207 (by decide) ?_
              refine V.iload_n (j := 3) rfl dX8_meet_174 ?_
              refine V.iconst (v := nI 2) (by decide) dX8_meet_175 ?_
              refine V.icmp_ge (tgt := 210) dX8_meet_176 (by decide) (fun _ => ?_) (fun z => absurd z (by decide))
              refine V.iincN (ls' := [(0, .ref mM), (1, .int (nI (s + 1))), (2, .int ((-1))), (3, .int (nI 2)), (4, .int (nI c))]) dX8_meet_210 (j := 1) rfl (by decide) rfl ?_
              refine V.goto (tgt := 32) dX8_meet_213 (by decide) ?_
              refine V.fewer [0, 1] rfl ?_
              refine V.hpe (A' := (upA (upA A m_way (mz_mW nv (A m_ops) (A m_first) (A m_second) (A m_classes) (A m_behind) s f)) m_weights (mz_mG (A m_ops) (A m_first) (A m_second) (A m_third) s g))) rfl (congr (congrArg (fun x y => upA (upA A m_way x) m_weights y) (mz_mW_m e1)) (by unfold mz_mG; rw [e1, e2, e3]; simp only [mz_inc_m, mz_inc_n (show b < 2 ^ 31 by omega), mz_inc_n (show c < 2 ^ 31 by omega)])) ?_
              exact ih (s + 1) _ _ (by omega) hk
        refine V.iload_n (j := 3) rfl dX8_meet_48 ?_
        refine V.aload_n (j := 0) rfl dX8_meet_49 ?_
        refine V.geti (v := nI nv) dX8_meet_50 fX8_79 rfl rfl hn ?_
        refine V.icmp_geN (tgt := 157) dX8_meet_53 (by decide) (by omega) (by omega) (fun c18 => ?_) (fun c18 => ?_)
        · refine V.fewer [0, 1, 2] rfl ?_
          exact K3
        · refine V.iload_n (j := 2) rfl dX8_meet_56 ?_
          refine V.iconst (v := (-1)) (by decide) dX8_meet_57 ?_
          refine V.icmp_eq (tgt := 157) dX8_meet_58 (by decide) (fun _ => ?_) (fun z => absurd rfl z)
          refine V.fewer [0, 1, 2] rfl ?_
          exact K3
      · refine V.lse (ls' := [(0, .ref mM), (1, .int (nI s)), (2, .int (nI a))]) (by rw [e1]) ?_
        refine V.iconst (v := nI 0) (by decide) dX8_meet_46 ?_
        refine V.istore_n (ls' := [(0, .ref mM), (1, .int (nI s)), (2, .int (nI a)), (3, .int (nI 0))]) dX8_meet_47 (by decide) rfl ?_
        refine ml_meet2 I A nv hn hnv s (by omega) a ha g nv 0 f (by omega) ?_
        refine V.iload_n (j := 2) rfl dX8_meet_157 ?_
        refine V.iconst (v := (-1)) (by decide) dX8_meet_158 ?_
        refine V.icmp_eq (tgt := 172) dX8_meet_159 (by decide) (fun z => absurd z (nI_nm1 (by omega))) (fun _ => ?_)
        refine V.aload_n (j := 0) rfl dX8_meet_162 ?_
        refine V.getr (q := m_weights) dX8_meet_163 fX8_40 rfl rfl ?_
        refine V.iload_n (j := 2) rfl dX8_meet_166 ?_
        refine V.dup2 rfl rfl dX8_meet_167 ?_
        refine V.lda (v := g a) dX8_meet_168 rfl (by omega) (by decide) rfl ?_
        refine V.iconst (v := nI 1) (by decide) dX8_meet_169 ?_
        refine V.iadd dX8_meet_170 ?_
        refine V.sta (g := upd g a ((g a) + (nI 1))) dX8_meet_171 rfl (by omega) (by decide) rfl ?_
        refine V.hpe (A' := (upA (upA A m_way (mz_wL (A m_ops) (A m_second) (A m_classes) (A m_behind) s a nv 0 f)) m_weights (upd g a ((g a) + (nI 1))))) rfl upA_u ?_
        refine V.iconst (v := nI 0) (by decide) dX8_meet_172 ?_
        refine V.istore_n (ls' := [(0, .ref mM), (1, .int (nI s)), (2, .int (nI a)), (3, .int (nI 0))]) dX8_meet_173 (by decide) rfl ?_
        refine V.iload_n (j := 3) rfl dX8_meet_174 ?_
        refine V.iconst (v := nI 2) (by decide) dX8_meet_175 ?_
        refine V.icmp_ge (tgt := 210) dX8_meet_176 (by decide) (fun z => absurd z (by decide)) (fun _ => ?_)
        refine V.aload_n (j := 0) rfl dX8_meet_179 ?_
        refine V.iload_n (j := 1) rfl dX8_meet_180 ?_
        refine V.iload_n (j := 3) rfl dX8_meet_181 ?_
        refine V.cV (As := [.int (nI s), .int (nI 0)]) (st := []) dX8_meet_182 sX8_98 iX8_taken lX8_taken rfl rfl (md_taken0 _ _ s (by omega)) ⟨by decide, by decide⟩ (Nat.le_of_ble_eq_true rfl) rfl (fun r I' A' hq => ?_)
        obtain ⟨rfl, rfl, rfl⟩ := hq
        refine V.st (st' := [.int (mz_tak0 (A m_ops) (A m_first) (A m_second) s)]) rfl ?_
        refine V.istore (ls' := [(0, .ref mM), (1, .int (nI s)), (2, .int (nI a)), (3, .int (nI 0)), (4, .int (mz_tak0 (A m_ops) (A m_first) (A m_second) s))]) dX8_meet_185 (by decide) rfl ?_
        rcases h0 s (by omega) with e2 | ⟨b, hb, e2⟩
        · refine V.lse (ls' := [(0, .ref mM), (1, .int (nI s)), (2, .int (nI a)), (3, .int (nI 0)), (4, .int ((-1)))]) (by rw [e2]) ?_
          refine V.iload (j := 4) rfl dX8_meet_187 ?_
          refine V.iconst (v := (-1)) (by decide) dX8_meet_189 ?_
          refine V.icmp_eq (tgt := 204) dX8_meet_190 (by decide) (fun _ => ?_) (fun z => absurd rfl z)
          refine V.iincN (ls' := [(0, .ref mM), (1, .int (nI s)), (2, .int (nI a)), (3, .int (nI 1)), (4, .int ((-1)))]) dX8_meet_204 (j := 3) rfl (by decide) rfl ?_
          refine V.goto (tgt := 174) dX8_meet_207 (by decide) ?_
          refine V.iload_n (j := 3) rfl dX8_meet_174 ?_
          refine V.iconst (v := nI 2) (by decide) dX8_meet_175 ?_
          refine V.icmp_ge (tgt := 210) dX8_meet_176 (by decide) (fun z => absurd z (by decide)) (fun _ => ?_)
          refine V.aload_n (j := 0) rfl dX8_meet_179 ?_
          refine V.iload_n (j := 1) rfl dX8_meet_180 ?_
          refine V.iload_n (j := 3) rfl dX8_meet_181 ?_
          refine V.cV (As := [.int (nI s), .int (nI 1)]) (st := []) dX8_meet_182 sX8_98 iX8_taken lX8_taken rfl rfl (md_taken1 _ _ s (by omega)) ⟨by decide, by decide⟩ (Nat.le_of_ble_eq_true rfl) rfl (fun r I' A' hq => ?_)
          obtain ⟨rfl, rfl, rfl⟩ := hq
          refine V.st (st' := [.int (mz_tak1 (A m_ops) (A m_second) (A m_third) s)]) rfl ?_
          refine V.istore (ls' := [(0, .ref mM), (1, .int (nI s)), (2, .int (nI a)), (3, .int (nI 1)), (4, .int (mz_tak1 (A m_ops) (A m_second) (A m_third) s))]) dX8_meet_185 (by decide) rfl ?_
          rcases h1 s (by omega) with e3 | ⟨c, hc, e3⟩
          · refine V.lse (ls' := [(0, .ref mM), (1, .int (nI s)), (2, .int (nI a)), (3, .int (nI 1)), (4, .int ((-1)))]) (by rw [e3]) ?_
            refine V.iload (j := 4) rfl dX8_meet_187 ?_
            refine V.iconst (v := (-1)) (by decide) dX8_meet_189 ?_
            refine V.icmp_eq (tgt := 204) dX8_meet_190 (by decide) (fun _ => ?_) (fun z => absurd rfl z)
            refine V.iincN (ls' := [(0, .ref mM), (1, .int (nI s)), (2, .int (nI a)), (3, .int (nI 2)), (4, .int ((-1)))]) dX8_meet_204 (j := 3) rfl (by decide) rfl ?_
            refine V.goto (tgt := 174) dX8_meet_207 (by decide) ?_
            refine V.iload_n (j := 3) rfl dX8_meet_174 ?_
            refine V.iconst (v := nI 2) (by decide) dX8_meet_175 ?_
            refine V.icmp_ge (tgt := 210) dX8_meet_176 (by decide) (fun _ => ?_) (fun z => absurd z (by decide))
            refine V.iincN (ls' := [(0, .ref mM), (1, .int (nI (s + 1))), (2, .int (nI a)), (3, .int (nI 2)), (4, .int ((-1)))]) dX8_meet_210 (j := 1) rfl (by decide) rfl ?_
            refine V.goto (tgt := 32) dX8_meet_213 (by decide) ?_
            refine V.fewer [0, 1] rfl ?_
            refine V.hpe (A' := (upA (upA A m_way (mz_mW nv (A m_ops) (A m_first) (A m_second) (A m_classes) (A m_behind) s f)) m_weights (mz_mG (A m_ops) (A m_first) (A m_second) (A m_third) s g))) rfl (congr (congrArg (fun x y => upA (upA A m_way x) m_weights y) (mz_mW_n e1 (by omega))) (by unfold mz_mG; rw [e1, e2, e3]; simp only [mz_inc_m, mz_inc_n (show a < 2 ^ 31 by omega)])) ?_
            exact ih (s + 1) _ _ (by omega) hk
          · refine V.lse (ls' := [(0, .ref mM), (1, .int (nI s)), (2, .int (nI a)), (3, .int (nI 1)), (4, .int (nI c))]) (by rw [e3]) ?_
            refine V.iload (j := 4) rfl dX8_meet_187 ?_
            refine V.iconst (v := (-1)) (by decide) dX8_meet_189 ?_
            refine V.icmp_eq (tgt := 204) dX8_meet_190 (by decide) (fun z => absurd z (nI_nm1 (by omega))) (fun _ => ?_)
            refine V.aload_n (j := 0) rfl dX8_meet_193 ?_
            refine V.getr (q := m_weights) dX8_meet_194 fX8_40 rfl rfl ?_
            refine V.iload (j := 4) rfl dX8_meet_197 ?_
            refine V.dup2 rfl rfl dX8_meet_199 ?_
            refine V.lda (v := (upd g a ((g a) + (nI 1))) c) dX8_meet_200 rfl (by omega) (by decide) rfl ?_
            refine V.iconst (v := nI 1) (by decide) dX8_meet_201 ?_
            refine V.iadd dX8_meet_202 ?_
            refine V.sta (g := upd (upd g a ((g a) + (nI 1))) c (((upd g a ((g a) + (nI 1))) c) + (nI 1))) dX8_meet_203 rfl (by omega) (by decide) rfl ?_
            refine V.hpe (A' := (upA (upA A m_way (mz_wL (A m_ops) (A m_second) (A m_classes) (A m_behind) s a nv 0 f)) m_weights (upd (upd g a ((g a) + (nI 1))) c (((upd g a ((g a) + (nI 1))) c) + (nI 1))))) rfl upA_u ?_
            refine V.iincN (ls' := [(0, .ref mM), (1, .int (nI s)), (2, .int (nI a)), (3, .int (nI 2)), (4, .int (nI c))]) dX8_meet_204 (j := 3) rfl (by decide) rfl ?_
            refine V.goto (tgt := 174) dX8_meet_207 (by decide) ?_
            refine V.iload_n (j := 3) rfl dX8_meet_174 ?_
            refine V.iconst (v := nI 2) (by decide) dX8_meet_175 ?_
            refine V.icmp_ge (tgt := 210) dX8_meet_176 (by decide) (fun _ => ?_) (fun z => absurd z (by decide))
            refine V.iincN (ls' := [(0, .ref mM), (1, .int (nI (s + 1))), (2, .int (nI a)), (3, .int (nI 2)), (4, .int (nI c))]) dX8_meet_210 (j := 1) rfl (by decide) rfl ?_
            refine V.goto (tgt := 32) dX8_meet_213 (by decide) ?_
            refine V.fewer [0, 1] rfl ?_
            refine V.hpe (A' := (upA (upA A m_way (mz_mW nv (A m_ops) (A m_first) (A m_second) (A m_classes) (A m_behind) s f)) m_weights (mz_mG (A m_ops) (A m_first) (A m_second) (A m_third) s g))) rfl (congr (congrArg (fun x y => upA (upA A m_way x) m_weights y) (mz_mW_n e1 (by omega))) (by unfold mz_mG; rw [e1, e2, e3]; simp only [mz_inc_m, mz_inc_n (show a < 2 ^ 31 by omega), mz_inc_n (show c < 2 ^ 31 by omega)])) ?_
            exact ih (s + 1) _ _ (by omega) hk
        · refine V.lse (ls' := [(0, .ref mM), (1, .int (nI s)), (2, .int (nI a)), (3, .int (nI 0)), (4, .int (nI b))]) (by rw [e2]) ?_
          refine V.iload (j := 4) rfl dX8_meet_187 ?_
          refine V.iconst (v := (-1)) (by decide) dX8_meet_189 ?_
          refine V.icmp_eq (tgt := 204) dX8_meet_190 (by decide) (fun z => absurd z (nI_nm1 (by omega))) (fun _ => ?_)
          refine V.aload_n (j := 0) rfl dX8_meet_193 ?_
          refine V.getr (q := m_weights) dX8_meet_194 fX8_40 rfl rfl ?_
          refine V.iload (j := 4) rfl dX8_meet_197 ?_
          refine V.dup2 rfl rfl dX8_meet_199 ?_
          refine V.lda (v := (upd g a ((g a) + (nI 1))) b) dX8_meet_200 rfl (by omega) (by decide) rfl ?_
          refine V.iconst (v := nI 1) (by decide) dX8_meet_201 ?_
          refine V.iadd dX8_meet_202 ?_
          refine V.sta (g := upd (upd g a ((g a) + (nI 1))) b (((upd g a ((g a) + (nI 1))) b) + (nI 1))) dX8_meet_203 rfl (by omega) (by decide) rfl ?_
          refine V.hpe (A' := (upA (upA A m_way (mz_wL (A m_ops) (A m_second) (A m_classes) (A m_behind) s a nv 0 f)) m_weights (upd (upd g a ((g a) + (nI 1))) b (((upd g a ((g a) + (nI 1))) b) + (nI 1))))) rfl upA_u ?_
          refine V.iincN (ls' := [(0, .ref mM), (1, .int (nI s)), (2, .int (nI a)), (3, .int (nI 1)), (4, .int (nI b))]) dX8_meet_204 (j := 3) rfl (by decide) rfl ?_
          refine V.goto (tgt := 174) dX8_meet_207 (by decide) ?_
          refine V.iload_n (j := 3) rfl dX8_meet_174 ?_
          refine V.iconst (v := nI 2) (by decide) dX8_meet_175 ?_
          refine V.icmp_ge (tgt := 210) dX8_meet_176 (by decide) (fun z => absurd z (by decide)) (fun _ => ?_)
          refine V.aload_n (j := 0) rfl dX8_meet_179 ?_
          refine V.iload_n (j := 1) rfl dX8_meet_180 ?_
          refine V.iload_n (j := 3) rfl dX8_meet_181 ?_
          refine V.cV (As := [.int (nI s), .int (nI 1)]) (st := []) dX8_meet_182 sX8_98 iX8_taken lX8_taken rfl rfl (md_taken1 _ _ s (by omega)) ⟨by decide, by decide⟩ (Nat.le_of_ble_eq_true rfl) rfl (fun r I' A' hq => ?_)
          obtain ⟨rfl, rfl, rfl⟩ := hq
          refine V.st (st' := [.int (mz_tak1 (A m_ops) (A m_second) (A m_third) s)]) rfl ?_
          refine V.istore (ls' := [(0, .ref mM), (1, .int (nI s)), (2, .int (nI a)), (3, .int (nI 1)), (4, .int (mz_tak1 (A m_ops) (A m_second) (A m_third) s))]) dX8_meet_185 (by decide) rfl ?_
          rcases h1 s (by omega) with e3 | ⟨c, hc, e3⟩
          · refine V.lse (ls' := [(0, .ref mM), (1, .int (nI s)), (2, .int (nI a)), (3, .int (nI 1)), (4, .int ((-1)))]) (by rw [e3]) ?_
            refine V.iload (j := 4) rfl dX8_meet_187 ?_
            refine V.iconst (v := (-1)) (by decide) dX8_meet_189 ?_
            refine V.icmp_eq (tgt := 204) dX8_meet_190 (by decide) (fun _ => ?_) (fun z => absurd rfl z)
            refine V.iincN (ls' := [(0, .ref mM), (1, .int (nI s)), (2, .int (nI a)), (3, .int (nI 2)), (4, .int ((-1)))]) dX8_meet_204 (j := 3) rfl (by decide) rfl ?_
            refine V.goto (tgt := 174) dX8_meet_207 (by decide) ?_
            refine V.iload_n (j := 3) rfl dX8_meet_174 ?_
            refine V.iconst (v := nI 2) (by decide) dX8_meet_175 ?_
            refine V.icmp_ge (tgt := 210) dX8_meet_176 (by decide) (fun _ => ?_) (fun z => absurd z (by decide))
            refine V.iincN (ls' := [(0, .ref mM), (1, .int (nI (s + 1))), (2, .int (nI a)), (3, .int (nI 2)), (4, .int ((-1)))]) dX8_meet_210 (j := 1) rfl (by decide) rfl ?_
            refine V.goto (tgt := 32) dX8_meet_213 (by decide) ?_
            refine V.fewer [0, 1] rfl ?_
            refine V.hpe (A' := (upA (upA A m_way (mz_mW nv (A m_ops) (A m_first) (A m_second) (A m_classes) (A m_behind) s f)) m_weights (mz_mG (A m_ops) (A m_first) (A m_second) (A m_third) s g))) rfl (congr (congrArg (fun x y => upA (upA A m_way x) m_weights y) (mz_mW_n e1 (by omega))) (by unfold mz_mG; rw [e1, e2, e3]; simp only [mz_inc_m, mz_inc_n (show a < 2 ^ 31 by omega), mz_inc_n (show b < 2 ^ 31 by omega)])) ?_
            exact ih (s + 1) _ _ (by omega) hk
          · refine V.lse (ls' := [(0, .ref mM), (1, .int (nI s)), (2, .int (nI a)), (3, .int (nI 1)), (4, .int (nI c))]) (by rw [e3]) ?_
            refine V.iload (j := 4) rfl dX8_meet_187 ?_
            refine V.iconst (v := (-1)) (by decide) dX8_meet_189 ?_
            refine V.icmp_eq (tgt := 204) dX8_meet_190 (by decide) (fun z => absurd z (nI_nm1 (by omega))) (fun _ => ?_)
            refine V.aload_n (j := 0) rfl dX8_meet_193 ?_
            refine V.getr (q := m_weights) dX8_meet_194 fX8_40 rfl rfl ?_
            refine V.iload (j := 4) rfl dX8_meet_197 ?_
            refine V.dup2 rfl rfl dX8_meet_199 ?_
            refine V.lda (v := (upd (upd g a ((g a) + (nI 1))) b (((upd g a ((g a) + (nI 1))) b) + (nI 1))) c) dX8_meet_200 rfl (by omega) (by decide) rfl ?_
            refine V.iconst (v := nI 1) (by decide) dX8_meet_201 ?_
            refine V.iadd dX8_meet_202 ?_
            refine V.sta (g := upd (upd (upd g a ((g a) + (nI 1))) b (((upd g a ((g a) + (nI 1))) b) + (nI 1))) c (((upd (upd g a ((g a) + (nI 1))) b (((upd g a ((g a) + (nI 1))) b) + (nI 1))) c) + (nI 1))) dX8_meet_203 rfl (by omega) (by decide) rfl ?_
            refine V.hpe (A' := (upA (upA A m_way (mz_wL (A m_ops) (A m_second) (A m_classes) (A m_behind) s a nv 0 f)) m_weights (upd (upd (upd g a ((g a) + (nI 1))) b (((upd g a ((g a) + (nI 1))) b) + (nI 1))) c (((upd (upd g a ((g a) + (nI 1))) b (((upd g a ((g a) + (nI 1))) b) + (nI 1))) c) + (nI 1))))) rfl upA_u ?_
            refine V.iincN (ls' := [(0, .ref mM), (1, .int (nI s)), (2, .int (nI a)), (3, .int (nI 2)), (4, .int (nI c))]) dX8_meet_204 (j := 3) rfl (by decide) rfl ?_
            refine V.goto (tgt := 174) dX8_meet_207 (by decide) ?_
            refine V.iload_n (j := 3) rfl dX8_meet_174 ?_
            refine V.iconst (v := nI 2) (by decide) dX8_meet_175 ?_
            refine V.icmp_ge (tgt := 210) dX8_meet_176 (by decide) (fun _ => ?_) (fun z => absurd z (by decide))
            refine V.iincN (ls' := [(0, .ref mM), (1, .int (nI (s + 1))), (2, .int (nI a)), (3, .int (nI 2)), (4, .int (nI c))]) dX8_meet_210 (j := 1) rfl (by decide) rfl ?_
            refine V.goto (tgt := 32) dX8_meet_213 (by decide) ?_
            refine V.fewer [0, 1] rfl ?_
            refine V.hpe (A' := (upA (upA A m_way (mz_mW nv (A m_ops) (A m_first) (A m_second) (A m_classes) (A m_behind) s f)) m_weights (mz_mG (A m_ops) (A m_first) (A m_second) (A m_third) s g))) rfl (congr (congrArg (fun x y => upA (upA A m_way x) m_weights y) (mz_mW_n e1 (by omega))) (by unfold mz_mG; rw [e1, e2, e3]; simp only [mz_inc_m, mz_inc_n (show a < 2 ^ 31 by omega), mz_inc_n (show b < 2 ^ 31 by omega), mz_inc_n (show c < 2 ^ 31 by omega)])) ?_
            exact ih (s + 1) _ _ (by omega) hk
set_option maxRecDepth 100000 in
set_option maxHeartbeats 4000000 in
theorem md_meet {G : am_G} (I A : Nat → Nat → Int32) (nv : Nat) (hn : I mM 0 = nI nv) (hnv : nv ≤ 24) (ns : Nat) (hs : I mM 2 = nI ns) (hns : ns ≤ 60) (hA : ∀ s, s < ns → mz_anew (A m_ops) (A m_first) s = (-1) ∨ ∃ a, a < nv ∧ mz_anew (A m_ops) (A m_first) s = nI a) (h0 : ∀ s, s < ns → mz_tak0 (A m_ops) (A m_first) (A m_second) s = (-1) ∨ ∃ a, a < nv ∧ mz_tak0 (A m_ops) (A m_first) (A m_second) s = nI a) (h1 : ∀ s, s < ns → mz_tak1 (A m_ops) (A m_second) (A m_third) s = (-1) ∨ ∃ a, a < nv ∧ mz_tak1 (A m_ops) (A m_second) (A m_third) s = nI a) : Cm G MX8_meet 1 23 [.ref mM] I A (fun r I' A' => r = none ∧ I = I' ∧ upA (upA A m_way (mz_meetW nv (A m_ops) (A m_first) (A m_second) (A m_classes) (A m_behind) ns 0 (mz_fill nv 0 (A m_way)))) m_weights (mz_meetG (A m_ops) (A m_first) (A m_second) (A m_third) ns 0 (mz_fill nv 0 (A m_weights))) = A') := by
  refine Cm.of (by decide) (Nat.le_of_ble_eq_true rfl) rfl ?_
  show V G MX8_meet (am_R 1 23 0 0) _ 0 0 0 [(0, .ref mM)] [] (hp I A)
  refine V.iconst (v := nI 0) (by decide) dX8_meet_0 ?_
  refine V.istore_n (ls' := [(0, .ref mM), (1, .int (nI 0))]) dX8_meet_1 (by decide) rfl ?_
  refine V.hpe (A' := (upA (upA A m_way (A m_way)) m_weights (A m_weights))) rfl (by rw [upA_i, upA_i]) ?_
  refine ml_meet1 I A nv hn hnv nv 0 _ _ (by omega) ?_
  refine V.iconst (v := nI 0) (by decide) dX8_meet_30 ?_
  refine V.istore_n (ls' := [(0, .ref mM), (1, .int (nI 0))]) dX8_meet_31 (by decide) rfl ?_
  refine ml_meet3 I A nv hn hnv ns hs hns hA h0 h1 ns 0 _ _ (by omega) ?_
  refine V.rv dX8_meet_216 rfl ?_
  exact ⟨rfl, rfl, rfl⟩
end
section
def mz_jt (ns : Nat) (op fa fb cl hm : Nat → Int32) (v cc k t : Nat) : Prop := ¬ t = v ∧ cl t = nI cc ∧ hm t = nI k ∧ mz_joined ns op fa fb (nI v) (nI t)
/-- register k is home to a value that a step 1 joins with v -/
def mz_J (nv ns : Nat) (op fa fb cl hm : Nat → Int32) (v cc k : Nat) : Prop := ∃ t, t < nv ∧ mz_jt ns op fa fb cl hm v cc k t
/-- the home that a value gets: R registers, J: joined there, F: free -/
def mz_home (R : Nat) (J F : Nat → Prop) (x : Nat) : Prop := (x < R ∧ (J x ∧ F x) ∧ ∀ k, k < x → ¬ (J k ∧ F k)) ∨ ((∀ k, k < R → ¬ (J k ∧ F k)) ∧ ((x < R ∧ F x ∧ ∀ k, k < x → ¬ F k) ∨ ((∀ k, k < R → ¬ F k) ∧ 100 ≤ x ∧ F x ∧ ∀ k, 100 ≤ k → k < x → ¬ F k)))
def mz_no (P : Nat → Prop) (n : Nat) : Prop := ∀ k, k < n → ¬ P k
set_option maxRecDepth 100000 in
set_option maxHeartbeats 4000000 in
theorem ml_homeFor1 {G : am_G} {Fn : Array Value → State → List Frame → State → Prop} (I A : Nat → Nat → Int32) (nv : Nat) (hn : I mM 0 = nI nv) (hnv : nv ≤ 24) (ns : Nat) (hs : I mM 2 = nI ns) (hns : ns ≤ 60) (v cc k : Nat) (hv : v < nv) : ∀ (m : Nat) (i : Nat), i + m = nv → V G MX8_homeFor (am_R 1 24 0 0) Fn 0 0 90 [(0, .ref mM), (1, .int (nI v)), (2, .int (nI cc)), (3, .int (nI k)), (4, .int (bI (∃ t, t < nv ∧ mz_jt ns (A m_ops) (A m_first) (A m_second) (A m_classes) (A m_homes) v cc k t)))] [] (hp I A) → V G MX8_homeFor (am_R 1 24 0 0) Fn 0 0 25 [(0, .ref mM), (1, .int (nI v)), (2, .int (nI cc)), (3, .int (nI k)), (4, .int (bI (∃ t, t < i ∧ mz_jt ns (A m_ops) (A m_first) (A m_second) (A m_classes) (A m_homes) v cc k t))), (5, .int (nI i))] [] (hp I A) := by
  intro m
  induction m with
  | zero =>
    intro i hi0 hk
    obtain rfl : nv = i := by omega
    refine V.iload (j := 5) rfl dX8_homeFor_25 ?_
    refine V.aload_n (j := 0) rfl dX8_homeFor_27 ?_
    refine V.geti (v := nI nv) dX8_homeFor_28 fX8_79 rfl rfl hn ?_
    refine V.icmp_geN (tgt := 90) dX8_homeFor_31 (by decide) (by omega) (by omega) (fun c1 => ?_) (fun c1 => ?_)
    · refine V.fewer [0, 1, 2, 3, 4] rfl ?_
      exact hk
    · exact absurd c1 (by omega)
  | succ m ih =>
    intro i hi0 hk
    refine V.iload (j := 5) rfl dX8_homeFor_25 ?_
    refine V.aload_n (j := 0) rfl dX8_homeFor_27 ?_
    refine V.geti (v := nI nv) dX8_homeFor_28 fX8_79 rfl rfl hn ?_
    refine V.icmp_geN (tgt := 90) dX8_homeFor_31 (by decide) (by omega) (by omega) (fun c2 => ?_) (fun c2 => ?_)
    · exact absurd c2 (by omega)
    · refine V.iload (j := 4) rfl dX8_homeFor_34 ?_
      have K3 : V G MX8_homeFor (am_R 1 24 0 0) Fn 0 0 82 [(0, .ref mM), (1, .int (nI v)), (2, .int (nI cc)), (3, .int (nI k)), (4, .int (bI (∃ t, t < i ∧ mz_jt ns (A m_ops) (A m_first) (A m_second) (A m_classes) (A m_homes) v cc k t))), (5, .int (nI i))] [.int (bI (∃ t, t < i + 1 ∧ mz_jt ns (A m_ops) (A m_first) (A m_second) (A m_classes) (A m_homes) v cc k t))] (hp I A) := by
        refine V.istore (ls' := [(0, .ref mM), (1, .int (nI v)), (2, .int (nI cc)), (3, .int (nI k)), (4, .int (bI (∃ t, t < i + 1 ∧ mz_jt ns (A m_ops) (A m_first) (A m_second) (A m_classes) (A m_homes) v cc k t))), (5, .int (nI i))]) dX8_homeFor_82 (by decide) rfl ?_
        refine V.iincN (ls' := [(0, .ref mM), (1, .int (nI v)), (2, .int (nI cc)), (3, .int (nI k)), (4, .int (bI (∃ t, t < i + 1 ∧ mz_jt ns (A m_ops) (A m_first) (A m_second) (A m_classes) (A m_homes) v cc k t))), (5, .int (nI (i + 1)))]) dX8_homeFor_84 (j := 5) rfl (by decide) rfl ?_
        refine V.goto (tgt := 25) dX8_homeFor_87 (by decide) ?_
        exact ih (i + 1) (by omega) hk
      refine V.if_ne (tgt := 77) dX8_homeFor_36 (by decide) (fun c4 => ?_) (fun c4 => ?_)
      · refine V.iconst (v := nI 1) (by decide) dX8_homeFor_77 ?_
        refine V.goto (tgt := 82) dX8_homeFor_78 (by decide) ?_
        exact V.st (congrArg (fun x => [Value.int x]) (bI_1 (by obtain ⟨t, h1, h2⟩ := bI_nz c4; exact ⟨t, by omega, h2⟩))) K3
      · refine V.iload (j := 5) rfl dX8_homeFor_39 ?_
        refine V.iload_n (j := 1) rfl dX8_homeFor_41 ?_
        refine V.icmp_eqN (tgt := 81) dX8_homeFor_42 (by decide) (by omega) (by omega) (fun c5 => ?_) (fun c5 => ?_)
        · refine V.iconst (v := nI 0) (by decide) dX8_homeFor_81 ?_
          exact V.st (congrArg (fun x => [Value.int x]) (bI_0 (ex_no (bI_z c4) (fun y => y.1 c5)))) K3
        · refine V.aload_n (j := 0) rfl dX8_homeFor_45 ?_
          refine V.getr (q := m_classes) dX8_homeFor_46 fX8_7 rfl rfl ?_
          refine V.iload (j := 5) rfl dX8_homeFor_49 ?_
          refine V.lda (v := A m_classes i) dX8_homeFor_51 rfl (by omega) (by decide) rfl ?_
          refine V.iload_n (j := 2) rfl dX8_homeFor_52 ?_
          refine V.icmp_ne (tgt := 81) dX8_homeFor_53 (by decide) (fun c6 => ?_) (fun c6 => ?_)
          · refine V.iconst (v := nI 0) (by decide) dX8_homeFor_81 ?_
            exact V.st (congrArg (fun x => [Value.int x]) (bI_0 (ex_no (bI_z c4) (fun y => c6 y.2.1)))) K3
          · refine V.aload_n (j := 0) rfl dX8_homeFor_56 ?_
            refine V.getr (q := m_homes) dX8_homeFor_57 fX8_46 rfl rfl ?_
            refine V.iload (j := 5) rfl dX8_homeFor_60 ?_
            refine V.lda (v := A m_homes i) dX8_homeFor_62 rfl (by omega) (by decide) rfl ?_
            refine V.iload_n (j := 3) rfl dX8_homeFor_63 ?_
            refine V.icmp_ne (tgt := 81) dX8_homeFor_64 (by decide) (fun c7 => ?_) (fun c7 => ?_)
            · refine V.iconst (v := nI 0) (by decide) dX8_homeFor_81 ?_
              exact V.st (congrArg (fun x => [Value.int x]) (bI_0 (ex_no (bI_z c4) (fun y => c7 y.2.2.1)))) K3
            · refine V.aload_n (j := 0) rfl dX8_homeFor_67 ?_
              refine V.iload_n (j := 1) rfl dX8_homeFor_68 ?_
              refine V.iload (j := 5) rfl dX8_homeFor_69 ?_
              refine V.cV (As := [.int (nI v), .int (nI i)]) (st := []) dX8_homeFor_71 sX8_112 iX8_isJoined lX8_isJoined rfl rfl (md_isJoined _ _ ns hs hns _ _) ⟨by decide, by decide⟩ (Nat.le_of_ble_eq_true rfl) rfl (fun r I' A' hq => ?_)
              obtain ⟨rfl, rfl, rfl⟩ := hq
              by_cases b8 : mz_joined ns (A m_ops) (A m_first) (A m_second) (nI v) (nI i)
              · refine V.st (st' := [.int (nI 1)]) (by rw [bI_t b8]; rfl) ?_
                refine V.if_eq (tgt := 81) dX8_homeFor_74 (by decide) (fun z => absurd z (by decide)) (fun _ => ?_)
                refine V.iconst (v := nI 1) (by decide) dX8_homeFor_77 ?_
                refine V.goto (tgt := 82) dX8_homeFor_78 (by decide) ?_
                exact V.st (congrArg (fun x => [Value.int x]) (bI_1 ⟨i, by omega, c5, c6, c7, b8⟩)) K3
              · refine V.st (st' := [.int (nI 0)]) (by rw [bI_f b8]; rfl) ?_
                refine V.if_eq (tgt := 81) dX8_homeFor_74 (by decide) (fun _ => ?_) (fun z => absurd z (by decide))
                refine V.iconst (v := nI 0) (by decide) dX8_homeFor_81 ?_
                exact V.st (congrArg (fun x => [Value.int x]) (bI_0 (ex_no (bI_z c4) (fun y => b8 y.2.2.2)))) K3
set_option maxRecDepth 100000 in
set_option maxHeartbeats 4000000 in
theorem ml_homeFor2 {G : am_G} {Q : Option Value → (Nat → Nat → Int32) → (Nat → Nat → Int32) → Prop} (I A : Nat → Nat → Int32) (nv : Nat) (hn : I mM 0 = nI nv) (hnv : nv ≤ 24) (ns : Nat) (hs : I mM 2 = nI ns) (hns : ns ≤ 60) (v cc R : Nat) (hv : v < nv) (hc : A m_classes v = nI cc) (hcc : cc < 2) (hR : A m_registers cc = nI R) (hR8 : R ≤ 8) (hret : ∀ k, k < R → (mz_J nv ns (A m_ops) (A m_first) (A m_second) (A m_classes) (A m_homes) v cc k ∧ mz_free nv (A m_way v) (A m_homes) (nI k)) → mz_no (fun k1 => mz_J nv ns (A m_ops) (A m_first) (A m_second) (A m_classes) (A m_homes) v cc k1 ∧ mz_free nv (A m_way v) (A m_homes) (nI k1)) k → Q (some (.int (nI k))) I A) : ∀ (m : Nat) (k : Nat), k + m = R → mz_no (fun k1 => mz_J nv ns (A m_ops) (A m_first) (A m_second) (A m_classes) (A m_homes) v cc k1 ∧ mz_free nv (A m_way v) (A m_homes) (nI k1)) k → (mz_no (fun k1 => mz_J nv ns (A m_ops) (A m_first) (A m_second) (A m_classes) (A m_homes) v cc k1 ∧ mz_free nv (A m_way v) (A m_homes) (nI k1)) R → V G MX8_homeFor (am_R 1 24 0 0) (am_Fin G 0 0 (Pm Q)) 0 0 112 [(0, .ref mM), (1, .int (nI v)), (2, .int (nI cc))] [] (hp I A)) → V G MX8_homeFor (am_R 1 24 0 0) (am_Fin G 0 0 (Pm Q)) 0 0 9 [(0, .ref mM), (1, .int (nI v)), (2, .int (nI cc)), (3, .int (nI k))] [] (hp I A) := by
  intro m
  induction m with
  | zero =>
    intro k hi0 hi1 hk
    obtain rfl : R = k := by omega
    refine V.iload_n (j := 3) rfl dX8_homeFor_9 ?_
    refine V.aload_n (j := 0) rfl dX8_homeFor_10 ?_
    refine V.getr (q := m_registers) dX8_homeFor_11 fX8_25 rfl rfl ?_
    refine V.iload_n (j := 2) rfl dX8_homeFor_14 ?_
    refine V.lda (v := nI R) dX8_homeFor_15 rfl (by omega) (by decide) hR ?_
    refine V.icmp_geN (tgt := 112) dX8_homeFor_16 (by decide) (by omega) (by omega) (fun c1 => ?_) (fun c1 => ?_)
    · refine V.fewer [0, 1, 2] rfl ?_
      exact hk hi1
    · exact absurd c1 (by omega)
  | succ m ih =>
    intro k hi0 hi1 hk
    refine V.iload_n (j := 3) rfl dX8_homeFor_9 ?_
    refine V.aload_n (j := 0) rfl dX8_homeFor_10 ?_
    refine V.getr (q := m_registers) dX8_homeFor_11 fX8_25 rfl rfl ?_
    refine V.iload_n (j := 2) rfl dX8_homeFor_14 ?_
    refine V.lda (v := nI R) dX8_homeFor_15 rfl (by omega) (by decide) hR ?_
    refine V.icmp_geN (tgt := 112) dX8_homeFor_16 (by decide) (by omega) (by omega) (fun c2 => ?_) (fun c2 => ?_)
    · exact absurd c2 (by omega)
    · refine V.iconst (v := nI 0) (by decide) dX8_homeFor_19 ?_
      refine V.istore (ls' := [(0, .ref mM), (1, .int (nI v)), (2, .int (nI cc)), (3, .int (nI k)), (4, .int (nI 0))]) dX8_homeFor_20 (by decide) rfl ?_
      refine V.iconst (v := nI 0) (by decide) dX8_homeFor_22 ?_
      refine V.istore (ls' := [(0, .ref mM), (1, .int (nI v)), (2, .int (nI cc)), (3, .int (nI k)), (4, .int (nI 0)), (5, .int (nI 0))]) dX8_homeFor_23 (by decide) rfl ?_
      refine V.lse (ls' := [(0, .ref mM), (1, .int (nI v)), (2, .int (nI cc)), (3, .int (nI k)), (4, .int (bI (∃ t, t < 0 ∧ mz_jt ns (A m_ops) (A m_first) (A m_second) (A m_classes) (A m_homes) v cc k t))), (5, .int (nI 0))]) (by rw [← bI_0 (c := ∃ t, t < 0 ∧ _) (fun z => by obtain ⟨t, h1, h2⟩ := z; omega)]) ?_
      refine ml_homeFor1 I A nv hn hnv ns hs hns v cc k hv nv 0 (by omega) ?_
      refine V.iload (j := 4) rfl dX8_homeFor_90 ?_
      refine V.if_eq (tgt := 106) dX8_homeFor_92 (by decide) (fun c3 => ?_) (fun c3 => ?_)
      · refine V.iincN (ls' := [(0, .ref mM), (1, .int (nI v)), (2, .int (nI cc)), (3, .int (nI (k + 1))), (4, .int (bI (∃ t, t < nv ∧ mz_jt ns (A m_ops) (A m_first) (A m_second) (A m_classes) (A m_homes) v cc k t)))]) dX8_homeFor_106 (j := 3) rfl (by decide) rfl ?_
        refine V.goto (tgt := 9) dX8_homeFor_109 (by decide) ?_
        refine V.fewer [0, 1, 2, 3] rfl ?_
        exact ih (k + 1) (by omega) (lt_s hi1 (fun y => bI_z c3 y.1)) hk
      · refine V.aload_n (j := 0) rfl dX8_homeFor_95 ?_
        refine V.iload_n (j := 1) rfl dX8_homeFor_96 ?_
        refine V.iload_n (j := 3) rfl dX8_homeFor_97 ?_
        refine V.cV (As := [.int (nI v), .int (nI k)]) (st := []) dX8_homeFor_98 sX8_115 iX8_isFree lX8_isFree rfl rfl (md_isFree _ _ nv hn hnv v hv _) ⟨by decide, by decide⟩ (Nat.le_of_ble_eq_true rfl) rfl (fun r I' A' hq => ?_)
        obtain ⟨rfl, rfl, rfl⟩ := hq
        by_cases b4 : mz_free nv (A m_way v) (A m_homes) (nI k)
        · refine V.st (st' := [.int (nI 1)]) (by rw [bI_t b4]; rfl) ?_
          refine V.if_eq (tgt := 106) dX8_homeFor_101 (by decide) (fun z => absurd z (by decide)) (fun _ => ?_)
          refine V.iload_n (j := 3) rfl dX8_homeFor_104 ?_
          refine V.ri dX8_homeFor_105 rfl ?_
          exact hret k (by omega) ⟨bI_nz c3, b4⟩ hi1
        · refine V.st (st' := [.int (nI 0)]) (by rw [bI_f b4]; rfl) ?_
          refine V.if_eq (tgt := 106) dX8_homeFor_101 (by decide) (fun _ => ?_) (fun z => absurd z (by decide))
          refine V.iincN (ls' := [(0, .ref mM), (1, .int (nI v)), (2, .int (nI cc)), (3, .int (nI (k + 1))), (4, .int (bI (∃ t, t < nv ∧ mz_jt ns (A m_ops) (A m_first) (A m_second) (A m_classes) (A m_homes) v cc k t)))]) dX8_homeFor_106 (j := 3) rfl (by decide) rfl ?_
          refine V.goto (tgt := 9) dX8_homeFor_109 (by decide) ?_
          refine V.fewer [0, 1, 2, 3] rfl ?_
          exact ih (k + 1) (by omega) (lt_s hi1 (fun y => b4 y.2)) hk
set_option maxRecDepth 100000 in
set_option maxHeartbeats 4000000 in
theorem ml_homeFor3 {G : am_G} {Q : Option Value → (Nat → Nat → Int32) → (Nat → Nat → Int32) → Prop} (I A : Nat → Nat → Int32) (nv : Nat) (hn : I mM 0 = nI nv) (hnv : nv ≤ 24) (v cc R : Nat) (hv : v < nv) (hc : A m_classes v = nI cc) (hcc : cc < 2) (hR : A m_registers cc = nI R) (hR8 : R ≤ 8) (hret : ∀ k, k < R → mz_free nv (A m_way v) (A m_homes) (nI k) → mz_no (fun k1 => mz_free nv (A m_way v) (A m_homes) (nI k1)) k → Q (some (.int (nI k))) I A) : ∀ (m : Nat) (k : Nat), k + m = R → mz_no (fun k1 => mz_free nv (A m_way v) (A m_homes) (nI k1)) k → (mz_no (fun k1 => mz_free nv (A m_way v) (A m_homes) (nI k1)) R → V G MX8_homeFor (am_R 1 24 0 0) (am_Fin G 0 0 (Pm Q)) 0 0 141 [(0, .ref mM), (1, .int (nI v)), (2, .int (nI cc))] [] (hp I A)) → V G MX8_homeFor (am_R 1 24 0 0) (am_Fin G 0 0 (Pm Q)) 0 0 114 [(0, .ref mM), (1, .int (nI v)), (2, .int (nI cc)), (3, .int (nI k))] [] (hp I A) := by
  intro m
  induction m with
  | zero =>
    intro k hi0 hi1 hk
    obtain rfl : R = k := by omega
    refine V.iload_n (j := 3) rfl dX8_homeFor_114 ?_
    refine V.aload_n (j := 0) rfl dX8_homeFor_115 ?_
    refine V.getr (q := m_registers) dX8_homeFor_116 fX8_25 rfl rfl ?_
    refine V.iload_n (j := 2) rfl dX8_homeFor_119 ?_
    refine V.lda (v := nI R) dX8_homeFor_120 rfl (by omega) (by decide) hR ?_
    refine V.icmp_geN (tgt := 141) dX8_homeFor_121 (by decide) (by omega) (by omega) (fun c1 => ?_) (fun c1 => ?_)
    · refine V.fewer [0, 1, 2] rfl ?_
      exact hk hi1
    · exact absurd c1 (by omega)
  | succ m ih =>
    intro k hi0 hi1 hk
    refine V.iload_n (j := 3) rfl dX8_homeFor_114 ?_
    refine V.aload_n (j := 0) rfl dX8_homeFor_115 ?_
    refine V.getr (q := m_registers) dX8_homeFor_116 fX8_25 rfl rfl ?_
    refine V.iload_n (j := 2) rfl dX8_homeFor_119 ?_
    refine V.lda (v := nI R) dX8_homeFor_120 rfl (by omega) (by decide) hR ?_
    refine V.icmp_geN (tgt := 141) dX8_homeFor_121 (by decide) (by omega) (by omega) (fun c2 => ?_) (fun c2 => ?_)
    · exact absurd c2 (by omega)
    · refine V.aload_n (j := 0) rfl dX8_homeFor_124 ?_
      refine V.iload_n (j := 1) rfl dX8_homeFor_125 ?_
      refine V.iload_n (j := 3) rfl dX8_homeFor_126 ?_
      refine V.cV (As := [.int (nI v), .int (nI k)]) (st := []) dX8_homeFor_127 sX8_115 iX8_isFree lX8_isFree rfl rfl (md_isFree _ _ nv hn hnv v hv _) ⟨by decide, by decide⟩ (Nat.le_of_ble_eq_true rfl) rfl (fun r I' A' hq => ?_)
      obtain ⟨rfl, rfl, rfl⟩ := hq
      by_cases b3 : mz_free nv (A m_way v) (A m_homes) (nI k)
      · refine V.st (st' := [.int (nI 1)]) (by rw [bI_t b3]; rfl) ?_
        refine V.if_eq (tgt := 135) dX8_homeFor_130 (by decide) (fun z => absurd z (by decide)) (fun _ => ?_)
        refine V.iload_n (j := 3) rfl dX8_homeFor_133 ?_
        refine V.ri dX8_homeFor_134 rfl ?_
        exact hret k (by omega) b3 hi1
      · refine V.st (st' := [.int (nI 0)]) (by rw [bI_f b3]; rfl) ?_
        refine V.if_eq (tgt := 135) dX8_homeFor_130 (by decide) (fun _ => ?_) (fun z => absurd z (by decide))
        refine V.iincN (ls' := [(0, .ref mM), (1, .int (nI v)), (2, .int (nI cc)), (3, .int (nI (k + 1)))]) dX8_homeFor_135 (j := 3) rfl (by decide) rfl ?_
        refine V.goto (tgt := 114) dX8_homeFor_138 (by decide) ?_
        exact ih (k + 1) (by omega) (lt_s hi1 b3) hk
set_option maxRecDepth 100000 in
set_option maxHeartbeats 4000000 in
theorem ml_homeFor4 {G : am_G} {Fn : Array Value → State → List Frame → State → Prop} (I A : Nat → Nat → Int32) (nv : Nat) (hn : I mM 0 = nI nv) (hnv : nv ≤ 24) (v cc : Nat) (hv : v < nv) (kf : Nat) (hkf : mz_free nv (A m_way v) (A m_homes) (nI kf)) (hmin : ∀ k, 100 ≤ k → k < kf → ¬ mz_free nv (A m_way v) (A m_homes) (nI k)) : ∀ (m k : Nat), 100 ≤ k → k + m = kf → V G MX8_homeFor (am_R 1 24 0 0) Fn 0 0 159 [(0, .ref mM), (1, .int (nI v)), (2, .int (nI cc)), (3, .int (nI kf))] [] (hp I A) → V G MX8_homeFor (am_R 1 24 0 0) Fn 0 0 144 [(0, .ref mM), (1, .int (nI v)), (2, .int (nI cc)), (3, .int (nI k))] [] (hp I A) := by
  intro m
  induction m with
  | zero =>
    intro k h100 hk0 hk
    obtain rfl : kf = k := by omega
    refine V.aload_n (j := 0) rfl dX8_homeFor_144 ?_
    refine V.iload_n (j := 1) rfl dX8_homeFor_145 ?_
    refine V.iload_n (j := 3) rfl dX8_homeFor_146 ?_
    refine V.cV (As := [.int (nI v), .int (nI kf)]) (st := []) dX8_homeFor_147 sX8_115 iX8_isFree lX8_isFree rfl rfl (md_isFree _ _ nv hn hnv v hv _) ⟨by decide, by decide⟩ (Nat.le_of_ble_eq_true rfl) rfl (fun r I' A' hq => ?_)
    obtain ⟨rfl, rfl, rfl⟩ := hq
    refine V.st (st' := [.int (nI 1)]) (by rw [bI_t hkf]; rfl) ?_
    refine V.if_ne (tgt := 159) dX8_homeFor_150 (by decide) (fun _ => ?_) (fun z => absurd z (by decide))
    exact hk
  | succ m ih =>
    intro k h100 hk0 hk
    refine V.aload_n (j := 0) rfl dX8_homeFor_144 ?_
    refine V.iload_n (j := 1) rfl dX8_homeFor_145 ?_
    refine V.iload_n (j := 3) rfl dX8_homeFor_146 ?_
    refine V.cV (As := [.int (nI v), .int (nI k)]) (st := []) dX8_homeFor_147 sX8_115 iX8_isFree lX8_isFree rfl rfl (md_isFree _ _ nv hn hnv v hv _) ⟨by decide, by decide⟩ (Nat.le_of_ble_eq_true rfl) rfl (fun r I' A' hq => ?_)
    obtain ⟨rfl, rfl, rfl⟩ := hq
    refine V.st (st' := [.int (nI 0)]) (by rw [bI_f (hmin k h100 (by omega))]; rfl) ?_
    refine V.if_ne (tgt := 159) dX8_homeFor_150 (by decide) (fun z => absurd (by decide) z) (fun _ => ?_)
    refine V.iincN (ls' := [(0, .ref mM), (1, .int (nI v)), (2, .int (nI cc)), (3, .int (nI (k + 1)))]) dX8_homeFor_153 (j := 3) rfl (by decide) rfl ?_
    refine V.goto (tgt := 144) dX8_homeFor_156 (by decide) ?_
    exact ih (k + 1) (by omega) (by omega) hk
set_option maxRecDepth 100000 in
set_option maxHeartbeats 4000000 in
theorem md_homeFor {G : am_G} (I A : Nat → Nat → Int32) (nv : Nat) (hn : I mM 0 = nI nv) (hnv : nv ≤ 24) (ns : Nat) (hs : I mM 2 = nI ns) (hns : ns ≤ 60) (v cc R : Nat) (hv : v < nv) (hc : A m_classes v = nI cc) (hcc : cc < 2) (hR : A m_registers cc = nI R) (hR8 : R ≤ 8) (hT : ∃ k, 100 ≤ k ∧ mz_free nv (A m_way v) (A m_homes) (nI k)) : Cm G MX8_homeFor 1 24 [.ref mM, .int (nI v)] I A (fun r I' A' => ∃ x, r = some (.int (nI x)) ∧ mz_home R (fun k => mz_J nv ns (A m_ops) (A m_first) (A m_second) (A m_classes) (A m_homes) v cc k) (fun k => mz_free nv (A m_way v) (A m_homes) (nI k)) x ∧ I = I' ∧ A = A') := by
  refine Cm.of (by decide) (Nat.le_of_ble_eq_true rfl) rfl ?_
  show V G MX8_homeFor (am_R 1 24 0 0) _ 0 0 0 [(0, .ref mM), (1, .int (nI v))] [] (hp I A)
  obtain ⟨kf, hkf, hmin⟩ := pk_least _ hT
  refine V.aload_n (j := 0) rfl dX8_homeFor_0 ?_
  refine V.getr (q := m_classes) dX8_homeFor_1 fX8_7 rfl rfl ?_
  refine V.iload_n (j := 1) rfl dX8_homeFor_4 ?_
  refine V.lda (v := nI cc) dX8_homeFor_5 rfl (by omega) (by decide) hc ?_
  refine V.istore_n (ls' := [(0, .ref mM), (1, .int (nI v)), (2, .int (nI cc))]) dX8_homeFor_6 (by decide) rfl ?_
  refine V.iconst (v := nI 0) (by decide) dX8_homeFor_7 ?_
  refine V.istore_n (ls' := [(0, .ref mM), (1, .int (nI v)), (2, .int (nI cc)), (3, .int (nI 0))]) dX8_homeFor_8 (by decide) rfl ?_
  refine ml_homeFor2 I A nv hn hnv ns hs hns v cc R hv hc hcc hR hR8 (fun k hk h1 h2 => ⟨k, rfl, Or.inl ⟨hk, h1, h2⟩, rfl, rfl⟩) R 0 (by omega) (fun _ h => absurd h (Nat.not_lt_zero _)) (fun hno => ?_)
  refine V.iconst (v := nI 0) (by decide) dX8_homeFor_112 ?_
  refine V.istore_n (ls' := [(0, .ref mM), (1, .int (nI v)), (2, .int (nI cc)), (3, .int (nI 0))]) dX8_homeFor_113 (by decide) rfl ?_
  refine ml_homeFor3 I A nv hn hnv v cc R hv hc hcc hR hR8 (fun k hk h1 h2 => ⟨k, rfl, Or.inr ⟨hno, Or.inl ⟨hk, h1, h2⟩⟩, rfl, rfl⟩) R 0 (by omega) (fun _ h => absurd h (Nat.not_lt_zero _)) (fun hnf => ?_)
  refine V.bipush (v := nI 100) (by decide) dX8_homeFor_141 ?_
  refine V.istore_n (ls' := [(0, .ref mM), (1, .int (nI v)), (2, .int (nI cc)), (3, .int (nI 100))]) dX8_homeFor_143 (by decide) rfl ?_
  refine ml_homeFor4 I A nv hn hnv v cc hv kf hkf.2 (fun k h1 h2 h3 => hmin k h2 ⟨h1, h3⟩) (kf - 100) 100 (Nat.le_refl _) (by have := hkf.1; omega) ?_
  refine V.iload_n (j := 3) rfl dX8_homeFor_159 ?_
  refine V.ri dX8_homeFor_160 rfl ?_
  exact ⟨kf, rfl, Or.inr ⟨hno, Or.inr ⟨hnf, hkf.1, hkf.2, fun k h1 h2 h3 => hmin k h2 ⟨h1, h3⟩⟩⟩, rfl, rfl⟩
end
section
/-- n places cannot fill n + 1 -/
theorem pg_gap : ∀ (n : Nat) (g : Nat → Nat), ∃ k, k ≤ n ∧ ∀ u, u < n → ¬ g u = k
  | 0, _ => ⟨0, Nat.le_refl _, fun _ h => absurd h (Nat.not_lt_zero _)⟩
  | n + 1, g => by
    obtain ⟨k, h1, h2⟩ := pg_gap n (fun u => if g n < g u then g u - 1 else g u)
    by_cases hk : k < g n
    · refine ⟨k, by omega, fun u hu => ?_⟩
      by_cases hun : u = n
      · subst hun; omega
      · have h3 := h2 u (by omega)
        split at h3 <;> omega
    · refine ⟨k + 1, by omega, fun u hu => ?_⟩
      by_cases hun : u = n
      · subst hun; omega
      · have h3 := h2 u (by omega)
        split at h3 <;> omega
theorem mz_hasfree (nv : Nat) (hnv : nv ≤ 24) (w : Int32) (hm : Nat → Int32) : ∃ k, 100 ≤ k ∧ mz_free nv w hm (nI k) := by
  obtain ⟨k, h1, h2⟩ := pg_gap nv (fun u => (hm u).toNatClampNeg - 100)
  refine ⟨100 + k, by omega, fun u hu => Or.inr fun q => h2 u hu ?_⟩
  rw [q, nI_clamp (by omega)]
  omega
/-- a row whose places below n but h tell numbers below b -/
def mz_ok (n h b : Nat) (o : Nat → Int32) : Prop := ∀ j, j < n → ¬ j = h → ∃ t, t < b ∧ o j = nI t
/-- where a value of weight x goes, and the row with the others moved on -/
def mz_ins (wt : Nat → Int32) (x : Int32) : Nat → (Nat → Int32) → Nat × (Nat → Int32)
  | 0, o => (0, o)
  | k + 1, o => if x ≤ wt (o k).toNatClampNeg then (k + 1, o) else mz_ins wt x k (upd o (k + 1) (o k))
theorem mz_ok_shift {n k b : Nat} {o : Nat → Int32} (h : mz_ok n (k + 1) b o) (hk : k < n) : mz_ok n k b (upd o (k + 1) (o k)) := by
  intro j hj hne
  by_cases h1 : j = k + 1
  · subst h1
    obtain ⟨t, h2, h3⟩ := h k hk (by omega)
    exact ⟨t, h2, by simp [upd, h3]⟩
  · obtain ⟨t, h2, h3⟩ := h j hj h1
    exact ⟨t, h2, by simp [upd, h1, h3]⟩
theorem mz_ok_fill {n k b v : Nat} {o : Nat → Int32} (h : mz_ok n k b o) (hv : v < b + 1) : mz_ok n n (b + 1) (upd o k (nI v)) := by
  intro j hj _
  by_cases h1 : j = k
  · subst h1; exact ⟨v, hv, by simp [upd]⟩
  · obtain ⟨t, h2, h3⟩ := h j hj h1
    exact ⟨t, by omega, by simp [upd, h1, h3]⟩
theorem mz_ins_ok (wt : Nat → Int32) (x : Int32) {n b : Nat} : ∀ (k : Nat) (o : Nat → Int32), k < n → mz_ok n k b o → mz_ok n (mz_ins wt x k o).1 b (mz_ins wt x k o).2 ∧ (mz_ins wt x k o).1 ≤ k
  | 0, o, _, h => ⟨h, Nat.le_refl _⟩
  | k + 1, o, hk, h => by
    unfold mz_ins
    split
    · exact ⟨h, Nat.le_refl _⟩
    · obtain ⟨h1, h2⟩ := mz_ins_ok wt x k _ (by omega) (mz_ok_shift h (by omega))
      exact ⟨h1, by omega⟩
/-- the order: values put in one after another -/
def mz_sort (wt : Nat → Int32) : Nat → Nat → (Nat → Int32) → Nat → Int32
  | 0, _, o => o
  | m + 1, v, o => mz_sort wt m (v + 1) (upd (mz_ins wt (wt v) v o).2 (mz_ins wt (wt v) v o).1 (nI v))
def mz_none : Nat → Nat → (Nat → Int32) → Nat → Int32
  | 0, _, f => f
  | m + 1, v, f => mz_none m (v + 1) (upd f v (-1))
/-- the homes, given one after another -/
def mz_set (nv ns : Nat) (op fa fb cl rg wy od : Nat → Int32) : Nat → Nat → (Nat → Int32) → (Nat → Int32) → Prop
  | 0, _, hm, hm' => hm' = hm
  | m + 1, i, hm, hm' => ∃ t cc R x, t < nv ∧ od i = nI t ∧ cl t = nI cc ∧ rg cc = nI R ∧ mz_home R (fun k => mz_J nv ns op fa fb cl hm t cc k) (fun k => mz_free nv (wy t) hm (nI k)) x ∧ mz_set nv ns op fa fb cl rg wy od m (i + 1) (upd hm t (nI x)) hm'
set_option maxRecDepth 100000 in
set_option maxHeartbeats 4000000 in
theorem ml_settle1 {G : am_G} {Fn : Array Value → State → List Frame → State → Prop} (I A : Nat → Nat → Int32) (v : Nat) (hv : v < 24) (g : Nat → Int32) : ∀ (k : Nat) (o : Nat → Int32), k ≤ v → mz_ok (v + 1) k v o → V G MX8_settle (am_R 3 73 0 0) Fn 0 0 66 [(0, .ref mM), (1, .int (nI v)), (2, .int (nI (mz_ins (A m_weights) (A m_weights v) k o).1))] [] (hp I (upA (upA A m_order (mz_ins (A m_weights) (A m_weights v) k o).2) m_homes g)) → V G MX8_settle (am_R 3 73 0 0) Fn 0 0 20 [(0, .ref mM), (1, .int (nI v)), (2, .int (nI k))] [] (hp I (upA (upA A m_order o) m_homes g)) := by
  intro k
  induction k with
  | zero =>
    intro o hi0 hi1 hk
    refine V.iload_n (j := 2) rfl dX8_settle_20 ?_
    refine V.if_le (tgt := 66) dX8_settle_21 (by decide) (fun _ => hk) (fun z => absurd (by decide) z)
  | succ k ih =>
    intro o hi0 hi1 hk
    refine V.iload_n (j := 2) rfl dX8_settle_20 ?_
    refine V.if_leN (tgt := 66) dX8_settle_21 (by decide) (by omega) (fun c1 => ?_) (fun c1 => ?_)
    · exact absurd c1 (by omega)
    · refine V.aload_n (j := 0) rfl dX8_settle_24 ?_
      refine V.getr (q := m_weights) dX8_settle_25 fX8_40 rfl rfl ?_
      refine V.aload_n (j := 0) rfl dX8_settle_28 ?_
      refine V.getr (q := m_order) dX8_settle_29 fX8_43 rfl rfl ?_
      refine V.iload_n (j := 2) rfl dX8_settle_32 ?_
      refine V.iconst (v := nI 1) (by decide) dX8_settle_33 ?_
      refine V.isubN dX8_settle_34 (by omega) ?_
      refine V.st (st' := [.int (nI k), .ref m_order, .ref m_weights]) rfl ?_
      refine V.lda (v := o k) dX8_settle_35 rfl (by omega) (by decide) rfl ?_
      obtain ⟨t, ht, et⟩ := hi1 k (by omega) (by omega)
      refine V.st (st' := [.int (nI t), .ref m_weights]) (by rw [et]) ?_
      refine V.lda (v := A m_weights t) dX8_settle_36 rfl (by omega) (by decide) rfl ?_
      refine V.aload_n (j := 0) rfl dX8_settle_37 ?_
      refine V.getr (q := m_weights) dX8_settle_38 fX8_40 rfl rfl ?_
      refine V.iload_n (j := 1) rfl dX8_settle_41 ?_
      refine V.lda (v := A m_weights v) dX8_settle_42 rfl (by omega) (by decide) rfl ?_
      refine V.icmp_ge (tgt := 66) dX8_settle_43 (by decide) (fun c2 => ?_) (fun c2 => ?_)
      · unfold mz_ins at hk
        rw [if_pos (by rw [et, nI_clamp (by omega)]; exact c2)] at hk
        exact hk
      · refine V.aload_n (j := 0) rfl dX8_settle_46 ?_
        refine V.getr (q := m_order) dX8_settle_47 fX8_43 rfl rfl ?_
        refine V.iload_n (j := 2) rfl dX8_settle_50 ?_
        refine V.aload_n (j := 0) rfl dX8_settle_51 ?_
        refine V.getr (q := m_order) dX8_settle_52 fX8_43 rfl rfl ?_
        refine V.iload_n (j := 2) rfl dX8_settle_55 ?_
        refine V.iconst (v := nI 1) (by decide) dX8_settle_56 ?_
        refine V.isubN dX8_settle_57 (by omega) ?_
        refine V.st (st' := [.int (nI k), .ref m_order, .int (nI (k + 1)), .ref m_order]) rfl ?_
        refine V.lda (v := o k) dX8_settle_58 rfl (by omega) (by decide) rfl ?_
        refine V.sta (g := upd o (k + 1) (o k)) dX8_settle_59 rfl (by omega) (by decide) rfl ?_
        refine V.hpe (A' := (upA (upA A m_order (upd o (k + 1) (o k))) m_homes (g))) rfl (upA_r2 (by decide)) ?_
        refine V.ideclN (ls' := [(0, .ref mM), (1, .int (nI v)), (2, .int (nI k))]) dX8_settle_60 (j := 2) rfl (by decide) rfl ?_
        refine V.goto (tgt := 20) dX8_settle_63 (by decide) ?_
        unfold mz_ins at hk
        rw [if_neg (by rw [et, nI_clamp (by omega)]; exact c2)] at hk
        exact ih _ (by omega) (mz_ok_shift hi1 (by omega)) hk
set_option maxRecDepth 100000 in
set_option maxHeartbeats 4000000 in
theorem ml_settle2 {G : am_G} {Fn : Array Value → State → List Frame → State → Prop} (I A : Nat → Nat → Int32) (nv : Nat) (hn : I mM 0 = nI nv) (hnv : nv ≤ 24) : ∀ (m : Nat) (v : Nat) (o : Nat → Int32) (g : Nat → Int32), v + m = nv → mz_ok v v v o → (mz_ok nv nv nv (mz_sort (A m_weights) m v o) → V G MX8_settle (am_R 3 73 0 0) Fn 0 0 86 [(0, .ref mM)] [] (hp I (upA (upA A m_order (mz_sort (A m_weights) m v o)) m_homes (mz_none m v g)))) → V G MX8_settle (am_R 3 73 0 0) Fn 0 0 10 [(0, .ref mM), (1, .int (nI v))] [] (hp I (upA (upA A m_order (o)) m_homes (g))) := by
  intro m
  induction m with
  | zero =>
    intro v o g hi0 hi1 hk
    obtain rfl : nv = v := by omega
    refine V.iload_n (j := 1) rfl dX8_settle_10 ?_
    refine V.aload_n (j := 0) rfl dX8_settle_11 ?_
    refine V.geti (v := nI nv) dX8_settle_12 fX8_79 rfl rfl hn ?_
    refine V.icmp_geN (tgt := 86) dX8_settle_15 (by decide) (by omega) (by omega) (fun c1 => ?_) (fun c1 => ?_)
    · refine V.fewer [0] rfl ?_
      exact hk hi1
    · exact absurd c1 (by omega)
  | succ m ih =>
    intro v o g hi0 hi1 hk
    refine V.iload_n (j := 1) rfl dX8_settle_10 ?_
    refine V.aload_n (j := 0) rfl dX8_settle_11 ?_
    refine V.geti (v := nI nv) dX8_settle_12 fX8_79 rfl rfl hn ?_
    refine V.icmp_geN (tgt := 86) dX8_settle_15 (by decide) (by omega) (by omega) (fun c2 => ?_) (fun c2 => ?_)
    · exact absurd c2 (by omega)
    · refine V.iload_n (j := 1) rfl dX8_settle_18 ?_
      refine V.istore_n (ls' := [(0, .ref mM), (1, .int (nI v)), (2, .int (nI v))]) dX8_settle_19 (by decide) rfl ?_
      have hok : mz_ok (v + 1) v v o := fun j hj hne => hi1 j (by omega) (by omega)
      obtain ⟨hok2, hle⟩ := mz_ins_ok (A m_weights) (A m_weights v) v o (by omega) hok
      refine ml_settle1 I A v (by omega) g v o (Nat.le_refl _) hok ?_
      refine V.aload_n (j := 0) rfl dX8_settle_66 ?_
      refine V.getr (q := m_order) dX8_settle_67 fX8_43 rfl rfl ?_
      refine V.iload_n (j := 2) rfl dX8_settle_70 ?_
      refine V.iload_n (j := 1) rfl dX8_settle_71 ?_
      refine V.sta (g := upd ((mz_ins (A m_weights) (A m_weights v) v o).2) ((mz_ins (A m_weights) (A m_weights v) v o).1) (nI v)) dX8_settle_72 rfl (by omega) (by decide) rfl ?_
      refine V.hpe (A' := (upA (upA A m_order (upd ((mz_ins (A m_weights) (A m_weights v) v o).2) ((mz_ins (A m_weights) (A m_weights v) v o).1) (nI v))) m_homes (g))) rfl (upA_r2 (by decide)) ?_
      refine V.aload_n (j := 0) rfl dX8_settle_73 ?_
      refine V.getr (q := m_homes) dX8_settle_74 fX8_46 rfl rfl ?_
      refine V.iload_n (j := 1) rfl dX8_settle_77 ?_
      refine V.iconst (v := (-1)) (by decide) dX8_settle_78 ?_
      refine V.sta (g := upd g v ((-1))) dX8_settle_79 rfl (by omega) (by decide) rfl ?_
      refine V.hpe (A' := (upA (upA A m_order (upd ((mz_ins (A m_weights) (A m_weights v) v o).2) ((mz_ins (A m_weights) (A m_weights v) v o).1) (nI v))) m_homes (upd g v ((-1))))) rfl upA_u ?_
      refine V.iincN (ls' := [(0, .ref mM), (1, .int (nI (v + 1))), (2, .int (nI ((mz_ins (A m_weights) (A m_weights v) v o).1)))]) dX8_settle_80 (j := 1) rfl (by decide) rfl ?_
      refine V.goto (tgt := 10) dX8_settle_83 (by decide) ?_
      refine V.fewer [0, 1] rfl ?_
      exact ih (v + 1) _ _ (by omega) (mz_ok_fill hok2 (by omega)) hk
set_option maxRecDepth 100000 in
set_option maxHeartbeats 4000000 in
theorem ml_settle3 {G : am_G} {Fn : Array Value → State → List Frame → State → Prop} (I A : Nat → Nat → Int32) (nv : Nat) (hn : I mM 0 = nI nv) (hnv : nv ≤ 24) (ns : Nat) (hs : I mM 2 = nI ns) (hns : ns ≤ 60) (hcl : ∀ v, v < nv → ∃ cc, cc < 2 ∧ A m_classes v = nI cc) (hrg : ∀ c, c < 2 → ∃ R, R ≤ 8 ∧ A m_registers c = nI R) (o : Nat → Int32) (ho : mz_ok nv nv nv o) : ∀ (m : Nat) (i : Nat) (h : Nat → Int32), i + m = nv → (∀ h' : Nat → Int32, mz_set nv ns (A m_ops) (A m_first) (A m_second) (A m_classes) (A m_registers) (A m_way) o m i h h' → V G MX8_settle (am_R 3 73 0 0) Fn 0 0 123 [(0, .ref mM)] [] (hp I (upA (upA A m_order o) m_homes h'))) → V G MX8_settle (am_R 3 73 0 0) Fn 0 0 88 [(0, .ref mM), (1, .int (nI i))] [] (hp I (upA (upA A m_order (o)) m_homes (h))) := by
  intro m
  induction m with
  | zero =>
    intro i h hi0 hk
    obtain rfl : nv = i := by omega
    refine V.iload_n (j := 1) rfl dX8_settle_88 ?_
    refine V.aload_n (j := 0) rfl dX8_settle_89 ?_
    refine V.geti (v := nI nv) dX8_settle_90 fX8_79 rfl rfl hn ?_
    refine V.icmp_geN (tgt := 123) dX8_settle_93 (by decide) (by omega) (by omega) (fun c1 => ?_) (fun c1 => ?_)
    · refine V.fewer [0] rfl ?_
      exact hk h rfl
    · exact absurd c1 (by omega)
  | succ m ih =>
    intro i h hi0 hk
    obtain ⟨t, ht, et⟩ := ho i (by omega) (by omega)
    obtain ⟨cc, hcc, ec⟩ := hcl t ht
    obtain ⟨R, hR8, eR⟩ := hrg cc hcc
    refine V.iload_n (j := 1) rfl dX8_settle_88 ?_
    refine V.aload_n (j := 0) rfl dX8_settle_89 ?_
    refine V.geti (v := nI nv) dX8_settle_90 fX8_79 rfl rfl hn ?_
    refine V.icmp_geN (tgt := 123) dX8_settle_93 (by decide) (by omega) (by omega) (fun c2 => ?_) (fun c2 => ?_)
    · exact absurd c2 (by omega)
    · refine V.aload_n (j := 0) rfl dX8_settle_96 ?_
      refine V.getr (q := m_homes) dX8_settle_97 fX8_46 rfl rfl ?_
      refine V.aload_n (j := 0) rfl dX8_settle_100 ?_
      refine V.getr (q := m_order) dX8_settle_101 fX8_43 rfl rfl ?_
      refine V.iload_n (j := 1) rfl dX8_settle_104 ?_
      refine V.lda (v := o i) dX8_settle_105 rfl (by omega) (by decide) rfl ?_
      refine V.st (st' := [.int (nI t), .ref m_homes]) (by rw [et]) ?_
      refine V.aload_n (j := 0) rfl dX8_settle_106 ?_
      refine V.aload_n (j := 0) rfl dX8_settle_107 ?_
      refine V.getr (q := m_order) dX8_settle_108 fX8_43 rfl rfl ?_
      refine V.iload_n (j := 1) rfl dX8_settle_111 ?_
      refine V.lda (v := o i) dX8_settle_112 rfl (by omega) (by decide) rfl ?_
      refine V.st (st' := [.int (nI t), .ref mM, .int (nI t), .ref m_homes]) (by rw [et]) ?_
      refine V.cV (As := [.int (nI t)]) (st := [.int (nI t), .ref m_homes]) dX8_settle_113 sX8_124 iX8_homeFor lX8_homeFor rfl rfl (md_homeFor _ _ nv hn hnv ns hs hns t cc R ht ec hcc eR hR8 (mz_hasfree nv hnv _ _)) ⟨by decide, by decide⟩ (Nat.le_of_ble_eq_true rfl) rfl (fun r I' A' hq => ?_)
      obtain ⟨x, rfl, hx, rfl, rfl⟩ := hq
      refine V.st (st' := [.int (nI x), .int (nI t), .ref m_homes]) rfl ?_
      refine V.sta (g := upd h t (nI x)) dX8_settle_116 rfl (by omega) (by decide) rfl ?_
      refine V.hpe (A' := (upA (upA A m_order (o)) m_homes (upd h t (nI x)))) rfl upA_u ?_
      refine V.iincN (ls' := [(0, .ref mM), (1, .int (nI (i + 1)))]) dX8_settle_117 (j := 1) rfl (by decide) rfl ?_
      refine V.goto (tgt := 88) dX8_settle_120 (by decide) ?_
      exact ih (i + 1) _ (by omega) (fun h' q => hk h' ⟨t, cc, R, x, ht, et, ec, eR, hx, q⟩)
/-- the flow's rows behind pass k, in the reference -/
def mz_fl (ns : Nat) (A : Nat → Nat → Int32) (k : Nat) : (Nat → Int32) × (Nat → Int32) := mz_it ns (A m_ops) (A m_first) (A m_second) (A m_third) (mz_fill ns 0 (A m_before)) (mz_fill ns 0 (A m_behind)) (k + 1)
def mz_fm (ns : Nat) (A : Nat → Nat → Int32) (k : Nat) : Int32 := mz_mo ns (A m_ops) (A m_first) (A m_second) (A m_third) (mz_fill ns 0 (A m_before)) (mz_fill ns 0 (A m_behind)) k
noncomputable def mz_W (nv ns : Nat) (A : Nat → Nat → Int32) (bh : Nat → Int32) : Nat → Int32 := mz_meetW nv (A m_ops) (A m_first) (A m_second) (A m_classes) bh ns 0 (mz_fill nv 0 (A m_way))
def mz_G (nv ns : Nat) (A : Nat → Nat → Int32) : Nat → Int32 := mz_meetG (A m_ops) (A m_first) (A m_second) (A m_third) ns 0 (mz_fill nv 0 (A m_weights))
def mz_O (nv ns : Nat) (A : Nat → Nat → Int32) : Nat → Int32 := mz_sort (mz_G nv ns A) nv 0 (A m_order)
def mz_N (nv : Nat) (A : Nat → Nat → Int32) : Nat → Int32 := mz_none nv 0 (A m_homes)
/-- what the reference's program is: well formed -/
def mz_wf (nv ns : Nat) (I A : Nat → Nat → Int32) : Prop := I mM 0 = nI nv ∧ nv ≤ 24 ∧ I mM 2 = nI ns ∧ ns ≤ 60 ∧ (∀ s, s < ns → A m_ops s = nI 8 → ¬ A m_first s < 0) ∧ (∀ s, s < ns → A m_ops s = nI 7 → ¬ A m_third s < 0) ∧
  (∀ s, s < ns → mz_anew (A m_ops) (A m_first) s = (-1) ∨ ∃ a, a < nv ∧ mz_anew (A m_ops) (A m_first) s = nI a) ∧ (∀ s, s < ns → mz_tak0 (A m_ops) (A m_first) (A m_second) s = (-1) ∨ ∃ a, a < nv ∧ mz_tak0 (A m_ops) (A m_first) (A m_second) s = nI a) ∧ (∀ s, s < ns → mz_tak1 (A m_ops) (A m_second) (A m_third) s = (-1) ∨ ∃ a, a < nv ∧ mz_tak1 (A m_ops) (A m_second) (A m_third) s = nI a) ∧
  (∀ v, v < nv → ∃ cc, cc < 2 ∧ A m_classes v = nI cc) ∧ (∀ c, c < 2 → ∃ R, R ≤ 8 ∧ A m_registers c = nI R) ∧ (∃ k, mz_fm ns A k = nI 0)
/-- what settle leaves -/
def mz_stl (nv ns : Nat) (A A' : Nat → Nat → Int32) : Prop := ∃ (k : Nat) (hm : Nat → Int32), mz_fm ns A k = nI 0 ∧ mz_set nv ns (A m_ops) (A m_first) (A m_second) (A m_classes) (A m_registers) (mz_W nv ns A (mz_fl ns A k).2) (mz_O nv ns A) nv 0 (mz_N nv A) hm ∧ upA (upA (upA (upA (upA (upA A m_before (mz_fl ns A k).1) m_behind (mz_fl ns A k).2) m_way (mz_W nv ns A (mz_fl ns A k).2)) m_weights (mz_G nv ns A)) m_order (mz_O nv ns A)) m_homes hm = A'
set_option maxRecDepth 100000 in
set_option maxHeartbeats 4000000 in
theorem md_settle {G : am_G} (I A : Nat → Nat → Int32) (nv ns : Nat) (hW : mz_wf nv ns I A) : Cm G MX8_settle 3 73 [.ref mM] I A (fun r I' A' => r = none ∧ I = I' ∧ mz_stl nv ns A A') := by
  refine Cm.of (by decide) (Nat.le_of_ble_eq_true rfl) rfl ?_
  show V G MX8_settle (am_R 3 73 0 0) _ 0 0 0 [(0, .ref mM)] [] (hp I A)
  obtain ⟨hn, hnv, hs, hns, h8, h7, hA, h0, h1, hcl, hrg, hT⟩ := hW
  refine V.aload_n (j := 0) rfl dX8_settle_0 ?_
  refine V.cV (As := []) (st := []) dX8_settle_1 sX8_118 iX8_flow lX8_flow rfl rfl (md_flow _ _ ns hs hns h8 h7 hT) ⟨by decide, by decide⟩ (Nat.le_of_ble_eq_true rfl) rfl (fun r I' A' hq => ?_)
  obtain ⟨rfl, rfl, kf, hkf, rfl⟩ := hq
  refine V.st (st' := []) rfl ?_
  refine V.aload_n (j := 0) rfl dX8_settle_4 ?_
  refine V.cV (As := []) (st := []) dX8_settle_5 sX8_121 iX8_meet lX8_meet rfl rfl (md_meet _ _ nv hn hnv ns hs hns hA h0 h1) ⟨by decide, by decide⟩ (Nat.le_of_ble_eq_true rfl) rfl (fun r I' A' hq => ?_)
  obtain ⟨rfl, rfl, rfl⟩ := hq
  refine V.st (st' := []) rfl ?_
  refine V.iconst (v := nI 0) (by decide) dX8_settle_8 ?_
  refine V.istore_n (ls' := [(0, .ref mM), (1, .int (nI 0))]) dX8_settle_9 (by decide) rfl ?_
  refine V.hpe (A' := (upA (upA (upA (upA (upA (upA A m_before ((mz_fl ns A kf).1)) m_behind ((mz_fl ns A kf).2)) m_way (mz_W nv ns A (mz_fl ns A kf).2)) m_weights (mz_G nv ns A)) m_order (A m_order)) m_homes (A m_homes))) rfl (by rw [show A m_homes = (upA (upA (upA (upA (upA A m_before ((mz_fl ns A kf).1)) m_behind ((mz_fl ns A kf).2)) m_way (mz_W nv ns A (mz_fl ns A kf).2)) m_weights (mz_G nv ns A)) m_order (A m_order)) m_homes from rfl, upA_i, show A m_order = (upA (upA (upA (upA A m_before ((mz_fl ns A kf).1)) m_behind ((mz_fl ns A kf).2)) m_way (mz_W nv ns A (mz_fl ns A kf).2)) m_weights (mz_G nv ns A)) m_order from rfl, upA_i]; rfl) ?_
  refine ml_settle2 I (upA (upA (upA (upA A m_before ((mz_fl ns A kf).1)) m_behind ((mz_fl ns A kf).2)) m_way (mz_W nv ns A (mz_fl ns A kf).2)) m_weights (mz_G nv ns A)) nv hn hnv nv 0 _ _ (by omega) (fun j hj => absurd hj (Nat.not_lt_zero _)) (fun hok => ?_)
  refine V.iconst (v := nI 0) (by decide) dX8_settle_86 ?_
  refine V.istore_n (ls' := [(0, .ref mM), (1, .int (nI 0))]) dX8_settle_87 (by decide) rfl ?_
  refine ml_settle3 I (upA (upA (upA (upA A m_before ((mz_fl ns A kf).1)) m_behind ((mz_fl ns A kf).2)) m_way (mz_W nv ns A (mz_fl ns A kf).2)) m_weights (mz_G nv ns A)) nv hn hnv ns hs hns hcl hrg (mz_O nv ns A) hok nv 0 (mz_N nv A) (by omega) (fun hm hq => ?_)
  refine V.rv dX8_settle_123 rfl ?_
  exact ⟨rfl, rfl, kf, hm, hkf, hq, rfl⟩
end
section
theorem upd_u {f : Nat → Int32} {k : Nat} {x y : Int32} : upd (upd f k x) k y = upd f k y := by
  funext j
  by_cases h : j = k <;> simp [upd, h]
theorem upd_i {f : Nat → Int32} {k : Nat} : upd f k (f k) = f := by
  funext j
  by_cases h : j = k
  · subst h; simp [upd]
  · simp [upd, h]
/-- an item is laid behind n others -/
def mz_lay (c : Nat → Int32) (n : Nat) (op x y z : Int32) : Nat → Int32 := upd (upd (upd (upd c (4 * n) op) (4 * n + 1) x) (4 * n + 2) y) (4 * n + 3) z
def mz_reg (c k : Int32) : Int32 := nI 16 * c + k
set_option maxRecDepth 100000 in
set_option maxHeartbeats 4000000 in
theorem md_lay0 {G : am_G} (I A : Nat → Nat → Int32) (n : Nat) (hi : A m_items 0 = nI n) (hn : n < 400) (o x y z : Int32) : Cm G MX8_lay 0 0 [.ref mM, .int o, .int x, .int y, .int z] I A (fun r I' A' => r = none ∧ I = I' ∧ upA (upA A m_code (mz_lay (A m_code) n o x y z)) m_items (upd (A m_items) 0 (nI (n + 1))) = A') := by
  refine Cm.of (by decide) (Nat.le_of_ble_eq_true rfl) rfl ?_
  show V G MX8_lay (am_R 0 0 0 0) _ 0 0 0 [(0, .ref mM), (1, .int o), (2, .int x), (3, .int y), (4, .int z)] [] (hp I A)
  refine V.iconst (v := nI 4) (by decide) dX8_lay_0 ?_
  refine V.aload_n (j := 0) rfl dX8_lay_1 ?_
  refine V.getr (q := m_items) dX8_lay_2 fX8_52 rfl rfl ?_
  refine V.iconst (v := nI 0) (by decide) dX8_lay_5 ?_
  refine V.lda (v := nI n) dX8_lay_6 rfl (by decide) (by decide) hi ?_
  refine V.imulN dX8_lay_7 ?_
  refine V.istore (ls' := [(0, .ref mM), (1, .int o), (2, .int x), (3, .int y), (4, .int z), (5, .int (nI (4 * n)))]) dX8_lay_8 (by decide) rfl ?_
  refine V.aload_n (j := 0) rfl dX8_lay_10 ?_
  refine V.getr (q := m_code) dX8_lay_11 fX8_49 rfl rfl ?_
  refine V.iload (j := 5) rfl dX8_lay_14 ?_
  refine V.iload_n (j := 1) rfl dX8_lay_16 ?_
  refine V.sta (g := upd (A m_code) (4 * n) (o)) dX8_lay_17 rfl (by omega) (by decide) rfl ?_
  refine V.aload_n (j := 0) rfl dX8_lay_18 ?_
  refine V.getr (q := m_code) dX8_lay_19 fX8_49 rfl rfl ?_
  refine V.iload (j := 5) rfl dX8_lay_22 ?_
  refine V.iconst (v := nI 1) (by decide) dX8_lay_24 ?_
  refine V.iaddN dX8_lay_25 ?_
  refine V.iload_n (j := 2) rfl dX8_lay_26 ?_
  refine V.sta (g := upd (upd (A m_code) (4 * n) (o)) ((4 * n) + 1) (x)) dX8_lay_27 rfl (by omega) (by decide) rfl ?_
  refine V.hpe (A' := (upA A m_code (upd (upd (A m_code) (4 * n) (o)) ((4 * n) + 1) (x)))) rfl upA_u ?_
  refine V.aload_n (j := 0) rfl dX8_lay_28 ?_
  refine V.getr (q := m_code) dX8_lay_29 fX8_49 rfl rfl ?_
  refine V.iload (j := 5) rfl dX8_lay_32 ?_
  refine V.iconst (v := nI 2) (by decide) dX8_lay_34 ?_
  refine V.iaddN dX8_lay_35 ?_
  refine V.iload_n (j := 3) rfl dX8_lay_36 ?_
  refine V.sta (g := upd (upd (upd (A m_code) (4 * n) (o)) ((4 * n) + 1) (x)) ((4 * n) + 2) (y)) dX8_lay_37 rfl (by omega) (by decide) rfl ?_
  refine V.hpe (A' := (upA A m_code (upd (upd (upd (A m_code) (4 * n) (o)) ((4 * n) + 1) (x)) ((4 * n) + 2) (y)))) rfl upA_u ?_
  refine V.aload_n (j := 0) rfl dX8_lay_38 ?_
  refine V.getr (q := m_code) dX8_lay_39 fX8_49 rfl rfl ?_
  refine V.iload (j := 5) rfl dX8_lay_42 ?_
  refine V.iconst (v := nI 3) (by decide) dX8_lay_44 ?_
  refine V.iaddN dX8_lay_45 ?_
  refine V.iload (j := 4) rfl dX8_lay_46 ?_
  refine V.sta (g := upd (upd (upd (upd (A m_code) (4 * n) (o)) ((4 * n) + 1) (x)) ((4 * n) + 2) (y)) ((4 * n) + 3) (z)) dX8_lay_48 rfl (by omega) (by decide) rfl ?_
  refine V.hpe (A' := (upA A m_code (upd (upd (upd (upd (A m_code) (4 * n) (o)) ((4 * n) + 1) (x)) ((4 * n) + 2) (y)) ((4 * n) + 3) (z)))) rfl upA_u ?_
  refine V.aload_n (j := 0) rfl dX8_lay_49 ?_
  refine V.getr (q := m_items) dX8_lay_50 fX8_52 rfl rfl ?_
  refine V.iconst (v := nI 0) (by decide) dX8_lay_53 ?_
  refine V.dup2 rfl rfl dX8_lay_54 ?_
  refine V.lda (v := nI n) dX8_lay_55 rfl (by decide) (by decide) hi ?_
  refine V.iconst (v := nI 1) (by decide) dX8_lay_56 ?_
  refine V.iaddN dX8_lay_57 ?_
  refine V.sta (g := upd (A m_items) 0 (nI (n + 1))) dX8_lay_58 rfl (by decide) (by decide) rfl ?_
  refine V.rv dX8_lay_59 rfl ?_
  exact ⟨rfl, rfl, rfl⟩
theorem md_lay {G : am_G} (I A : Nat → Nat → Int32) (g : Nat → Int32) (n : Nat) (hg : A m_items = upd g 0 (nI n)) (hn : n < 400) (o x y z : Int32) : Cm G MX8_lay 0 0 [.ref mM, .int o, .int x, .int y, .int z] I A (fun r I' A' => r = none ∧ I = I' ∧ upA (upA A m_code (mz_lay (A m_code) n o x y z)) m_items (upd g 0 (nI (n + 1))) = A') := by
  have h := md_lay0 (G := G) I A n (by rw [hg]; simp [upd]) hn o x y z
  rw [hg, upd_u] at h
  exact h
set_option maxRecDepth 100000 in
set_option maxHeartbeats 4000000 in
theorem md_reg {G : am_G} (I A : Nat → Nat → Int32) (c k : Int32) : Cm G MX8_register 0 0 [.int c, .int k] I A (fun r I' A' => r = some (.int (mz_reg c k)) ∧ I = I' ∧ A = A') := by
  refine Cm.of (by decide) (Nat.le_of_ble_eq_true rfl) rfl ?_
  show V G MX8_register (am_R 0 0 0 0) _ 0 0 0 [(0, .int c), (1, .int k)] [] (hp I A)
  refine V.bipush (v := nI 16) (by decide) dX8_register_0 ?_
  refine V.iload_n (j := 0) rfl dX8_register_2 ?_
  refine V.imul dX8_register_3 ?_
  refine V.iload_n (j := 1) rfl dX8_register_4 ?_
  refine V.iadd dX8_register_5 ?_
  refine V.ri dX8_register_6 rfl ?_
  exact ⟨rfl, rfl, rfl⟩
/-- the register where a value is made -/
def mz_to (cl hm : Nat → Int32) (v : Nat) : Int32 := mz_reg (cl v) (if hm v < nI 100 then hm v else nI 8)
set_option maxRecDepth 100000 in
set_option maxHeartbeats 4000000 in
theorem md_to {G : am_G} (I A : Nat → Nat → Int32) (v : Nat) (hv : v < 24) : Cm G MX8_to 1 21 [.ref mM, .int (nI v)] I A (fun r I' A' => r = some (.int (mz_to (A m_classes) (A m_homes) v)) ∧ I = I' ∧ A = A') := by
  refine Cm.of (by decide) (Nat.le_of_ble_eq_true rfl) rfl ?_
  show V G MX8_to (am_R 1 21 0 0) _ 0 0 0 [(0, .ref mM), (1, .int (nI v))] [] (hp I A)
  refine V.aload_n (j := 0) rfl dX8_to_0 ?_
  refine V.getr (q := m_classes) dX8_to_1 fX8_7 rfl rfl ?_
  refine V.iload_n (j := 1) rfl dX8_to_4 ?_
  refine V.lda (v := A m_classes v) dX8_to_5 rfl (by omega) (by decide) rfl ?_
  refine V.aload_n (j := 0) rfl dX8_to_6 ?_
  refine V.getr (q := m_homes) dX8_to_7 fX8_46 rfl rfl ?_
  refine V.iload_n (j := 1) rfl dX8_to_10 ?_
  refine V.lda (v := A m_homes v) dX8_to_11 rfl (by omega) (by decide) rfl ?_
  refine V.bipush (v := nI 100) (by decide) dX8_to_12 ?_
  have K1 : V G MX8_to (am_R 1 21 0 0) (am_Fin G 0 0 (Pm (fun r I' A' => r = some (.int (mz_to (A m_classes) (A m_homes) v)) ∧ I = I' ∧ A = A'))) 0 0 28 [(0, .ref mM), (1, .int (nI v))] [.int (if A m_homes v < nI 100 then A m_homes v else nI 8), .int (A m_classes v)] (hp I A) := by
    refine V.cS (As := [.int (A m_classes v), .int (if A m_homes v < nI 100 then A m_homes v else nI 8)]) (st := []) dX8_to_28 sX8_130 zX8_register (md_reg I A _ _) ⟨by decide, by decide⟩ (Nat.le_of_ble_eq_true rfl) rfl (fun r I' A' hq => ?_)
    obtain ⟨rfl, rfl, rfl⟩ := hq
    refine V.st (st' := [.int (mz_reg (A m_classes v) (if A m_homes v < nI 100 then A m_homes v else nI 8))]) rfl ?_
    refine V.ri dX8_to_31 rfl ?_
    exact ⟨rfl, rfl, rfl⟩
  refine V.icmp_lt (tgt := 22) dX8_to_14 (by decide) (fun c2 => ?_) (fun c2 => ?_)
  · refine V.aload_n (j := 0) rfl dX8_to_22 ?_
    refine V.getr (q := m_homes) dX8_to_23 fX8_46 rfl rfl ?_
    refine V.iload_n (j := 1) rfl dX8_to_26 ?_
    refine V.lda (v := A m_homes v) dX8_to_27 rfl (by omega) (by decide) rfl ?_
    exact V.st (by rw [if_pos c2]) K1
  · refine V.bipush (v := nI 8) (by decide) dX8_to_17 ?_
    refine V.goto (tgt := 28) dX8_to_19 (by decide) ?_
    exact V.st (by rw [if_neg c2]) K1
/-- the register where a value is taken from, when q have been fetched -/
def mz_from (cl hm fe it : Nat → Int32) (q v : Nat) : Int32 := match q with
  | 0 => mz_reg (cl v) (hm v)
  | 1 => if fe 0 = nI v then it 0 else mz_reg (cl v) (hm v)
  | _ => if fe 1 = nI v then it 1 else if fe 0 = nI v then it 0 else mz_reg (cl v) (hm v)
set_option maxRecDepth 100000 in
set_option maxHeartbeats 4000000 in
theorem md_from0 {G : am_G} (I A : Nat → Nat → Int32) (hq : I mM 25 = nI 0) (v : Nat) (hv : v < 24) : Cm G MX8_from 1 21 [.ref mM, .int (nI v)] I A (fun r I' A' => r = some (.int (mz_from (A m_classes) (A m_homes) (A m_fetches) (A m_into) 0 v)) ∧ I = I' ∧ A = A') := by
  refine Cm.of (by decide) (Nat.le_of_ble_eq_true rfl) rfl ?_
  show V G MX8_from (am_R 1 21 0 0) _ 0 0 0 [(0, .ref mM), (1, .int (nI v))] [] (hp I A)
  refine V.aload_n (j := 0) rfl dX8_from_0 ?_
  refine V.getr (q := m_classes) dX8_from_1 fX8_7 rfl rfl ?_
  refine V.iload_n (j := 1) rfl dX8_from_4 ?_
  refine V.lda (v := A m_classes v) dX8_from_5 rfl (by omega) (by decide) rfl ?_
  refine V.aload_n (j := 0) rfl dX8_from_6 ?_
  refine V.getr (q := m_homes) dX8_from_7 fX8_46 rfl rfl ?_
  refine V.iload_n (j := 1) rfl dX8_from_10 ?_
  refine V.lda (v := A m_homes v) dX8_from_11 rfl (by omega) (by decide) rfl ?_
  refine V.cS (As := [.int (A m_classes v), .int (A m_homes v)]) (st := []) dX8_from_12 sX8_130 zX8_register (md_reg I A _ _) ⟨by decide, by decide⟩ (Nat.le_of_ble_eq_true rfl) rfl (fun r I' A' hq => ?_)
  obtain ⟨rfl, rfl, rfl⟩ := hq
  refine V.st (st' := [.int (mz_reg (A m_classes v) (A m_homes v))]) rfl ?_
  refine V.istore_n (ls' := [(0, .ref mM), (1, .int (nI v)), (2, .int (mz_reg (A m_classes v) (A m_homes v)))]) dX8_from_15 (by decide) rfl ?_
  refine V.iconst (v := nI 0) (by decide) dX8_from_16 ?_
  refine V.istore_n (ls' := [(0, .ref mM), (1, .int (nI v)), (2, .int (mz_reg (A m_classes v) (A m_homes v))), (3, .int (nI 0))]) dX8_from_17 (by decide) rfl ?_
  refine V.iload_n (j := 3) rfl dX8_from_18 ?_
  refine V.aload_n (j := 0) rfl dX8_from_19 ?_
  refine V.geti (v := nI 0) dX8_from_20 fX8_127 rfl rfl hq ?_
  refine V.icmp_ge (tgt := 53) dX8_from_23 (by decide) (fun _ => ?_) (fun z => absurd z (by decide))
  refine V.iload_n (j := 2) rfl dX8_from_53 ?_
  refine V.ri dX8_from_54 rfl ?_
  exact ⟨rfl, rfl, rfl⟩
set_option maxRecDepth 100000 in
set_option maxHeartbeats 4000000 in
theorem md_from1 {G : am_G} (I A : Nat → Nat → Int32) (hq : I mM 25 = nI 1) (v : Nat) (hv : v < 24) : Cm G MX8_from 1 21 [.ref mM, .int (nI v)] I A (fun r I' A' => r = some (.int (mz_from (A m_classes) (A m_homes) (A m_fetches) (A m_into) 1 v)) ∧ I = I' ∧ A = A') := by
  refine Cm.of (by decide) (Nat.le_of_ble_eq_true rfl) rfl ?_
  show V G MX8_from (am_R 1 21 0 0) _ 0 0 0 [(0, .ref mM), (1, .int (nI v))] [] (hp I A)
  refine V.aload_n (j := 0) rfl dX8_from_0 ?_
  refine V.getr (q := m_classes) dX8_from_1 fX8_7 rfl rfl ?_
  refine V.iload_n (j := 1) rfl dX8_from_4 ?_
  refine V.lda (v := A m_classes v) dX8_from_5 rfl (by omega) (by decide) rfl ?_
  refine V.aload_n (j := 0) rfl dX8_from_6 ?_
  refine V.getr (q := m_homes) dX8_from_7 fX8_46 rfl rfl ?_
  refine V.iload_n (j := 1) rfl dX8_from_10 ?_
  refine V.lda (v := A m_homes v) dX8_from_11 rfl (by omega) (by decide) rfl ?_
  refine V.cS (As := [.int (A m_classes v), .int (A m_homes v)]) (st := []) dX8_from_12 sX8_130 zX8_register (md_reg I A _ _) ⟨by decide, by decide⟩ (Nat.le_of_ble_eq_true rfl) rfl (fun r I' A' hq => ?_)
  obtain ⟨rfl, rfl, rfl⟩ := hq
  refine V.st (st' := [.int (mz_reg (A m_classes v) (A m_homes v))]) rfl ?_
  refine V.istore_n (ls' := [(0, .ref mM), (1, .int (nI v)), (2, .int (mz_reg (A m_classes v) (A m_homes v)))]) dX8_from_15 (by decide) rfl ?_
  refine V.iconst (v := nI 0) (by decide) dX8_from_16 ?_
  refine V.istore_n (ls' := [(0, .ref mM), (1, .int (nI v)), (2, .int (mz_reg (A m_classes v) (A m_homes v))), (3, .int (nI 0))]) dX8_from_17 (by decide) rfl ?_
  refine V.iload_n (j := 3) rfl dX8_from_18 ?_
  refine V.aload_n (j := 0) rfl dX8_from_19 ?_
  refine V.geti (v := nI 1) dX8_from_20 fX8_127 rfl rfl hq ?_
  refine V.icmp_ge (tgt := 53) dX8_from_23 (by decide) (fun z => absurd z (by decide)) (fun _ => ?_)
  refine V.aload_n (j := 0) rfl dX8_from_26 ?_
  refine V.getr (q := m_fetches) dX8_from_27 fX8_73 rfl rfl ?_
  refine V.iload_n (j := 3) rfl dX8_from_30 ?_
  refine V.lda (v := A m_fetches 0) dX8_from_31 rfl (by decide) (by decide) rfl ?_
  refine V.iload_n (j := 1) rfl dX8_from_32 ?_
  have K2 : V G MX8_from (am_R 1 21 0 0) (am_Fin G 0 0 (Pm (fun r I' A' => r = some (.int (mz_from (A m_classes) (A m_homes) (A m_fetches) (A m_into) 1 v)) ∧ I = I' ∧ A = A'))) 0 0 46 [(0, .ref mM), (1, .int (nI v)), (2, .int (mz_reg (A m_classes v) (A m_homes v))), (3, .int (nI 0))] [.int (if A m_fetches 0 = nI v then A m_into 0 else mz_reg (A m_classes v) (A m_homes v))] (hp I A) := by
    refine V.istore_n (ls' := [(0, .ref mM), (1, .int (nI v)), (2, .int (if A m_fetches 0 = nI v then A m_into 0 else mz_reg (A m_classes v) (A m_homes v))), (3, .int (nI 0))]) dX8_from_46 (by decide) rfl ?_
    refine V.iincN (ls' := [(0, .ref mM), (1, .int (nI v)), (2, .int (if A m_fetches 0 = nI v then A m_into 0 else mz_reg (A m_classes v) (A m_homes v))), (3, .int (nI 1))]) dX8_from_47 (j := 3) rfl (by decide) rfl ?_
    refine V.goto (tgt := 18) dX8_from_50 (by decide) ?_
    refine V.iload_n (j := 3) rfl dX8_from_18 ?_
    refine V.aload_n (j := 0) rfl dX8_from_19 ?_
    refine V.geti (v := nI 1) dX8_from_20 fX8_127 rfl rfl hq ?_
    refine V.icmp_ge (tgt := 53) dX8_from_23 (by decide) (fun _ => ?_) (fun z => absurd z (by decide))
    refine V.iload_n (j := 2) rfl dX8_from_53 ?_
    refine V.ri dX8_from_54 rfl ?_
    exact ⟨rfl, rfl, rfl⟩
  refine V.icmp_ne (tgt := 45) dX8_from_33 (by decide) (fun c4 => ?_) (fun c4 => ?_)
  · refine V.iload_n (j := 2) rfl dX8_from_45 ?_
    exact V.st (by rw [if_neg c4]) K2
  · refine V.aload_n (j := 0) rfl dX8_from_36 ?_
    refine V.getr (q := m_into) dX8_from_37 fX8_76 rfl rfl ?_
    refine V.iload_n (j := 3) rfl dX8_from_40 ?_
    refine V.lda (v := A m_into 0) dX8_from_41 rfl (by decide) (by decide) rfl ?_
    refine V.goto (tgt := 46) dX8_from_42 (by decide) ?_
    exact V.st (by rw [if_pos c4]) K2
set_option maxRecDepth 100000 in
set_option maxHeartbeats 4000000 in
theorem md_from2 {G : am_G} (I A : Nat → Nat → Int32) (hq : I mM 25 = nI 2) (v : Nat) (hv : v < 24) : Cm G MX8_from 1 21 [.ref mM, .int (nI v)] I A (fun r I' A' => r = some (.int (mz_from (A m_classes) (A m_homes) (A m_fetches) (A m_into) 2 v)) ∧ I = I' ∧ A = A') := by
  refine Cm.of (by decide) (Nat.le_of_ble_eq_true rfl) rfl ?_
  show V G MX8_from (am_R 1 21 0 0) _ 0 0 0 [(0, .ref mM), (1, .int (nI v))] [] (hp I A)
  refine V.aload_n (j := 0) rfl dX8_from_0 ?_
  refine V.getr (q := m_classes) dX8_from_1 fX8_7 rfl rfl ?_
  refine V.iload_n (j := 1) rfl dX8_from_4 ?_
  refine V.lda (v := A m_classes v) dX8_from_5 rfl (by omega) (by decide) rfl ?_
  refine V.aload_n (j := 0) rfl dX8_from_6 ?_
  refine V.getr (q := m_homes) dX8_from_7 fX8_46 rfl rfl ?_
  refine V.iload_n (j := 1) rfl dX8_from_10 ?_
  refine V.lda (v := A m_homes v) dX8_from_11 rfl (by omega) (by decide) rfl ?_
  refine V.cS (As := [.int (A m_classes v), .int (A m_homes v)]) (st := []) dX8_from_12 sX8_130 zX8_register (md_reg I A _ _) ⟨by decide, by decide⟩ (Nat.le_of_ble_eq_true rfl) rfl (fun r I' A' hq => ?_)
  obtain ⟨rfl, rfl, rfl⟩ := hq
  refine V.st (st' := [.int (mz_reg (A m_classes v) (A m_homes v))]) rfl ?_
  refine V.istore_n (ls' := [(0, .ref mM), (1, .int (nI v)), (2, .int (mz_reg (A m_classes v) (A m_homes v)))]) dX8_from_15 (by decide) rfl ?_
  refine V.iconst (v := nI 0) (by decide) dX8_from_16 ?_
  refine V.istore_n (ls' := [(0, .ref mM), (1, .int (nI v)), (2, .int (mz_reg (A m_classes v) (A m_homes v))), (3, .int (nI 0))]) dX8_from_17 (by decide) rfl ?_
  refine V.iload_n (j := 3) rfl dX8_from_18 ?_
  refine V.aload_n (j := 0) rfl dX8_from_19 ?_
  refine V.geti (v := nI 2) dX8_from_20 fX8_127 rfl rfl hq ?_
  refine V.icmp_ge (tgt := 53) dX8_from_23 (by decide) (fun z => absurd z (by decide)) (fun _ => ?_)
  refine V.aload_n (j := 0) rfl dX8_from_26 ?_
  refine V.getr (q := m_fetches) dX8_from_27 fX8_73 rfl rfl ?_
  refine V.iload_n (j := 3) rfl dX8_from_30 ?_
  refine V.lda (v := A m_fetches 0) dX8_from_31 rfl (by decide) (by decide) rfl ?_
  refine V.iload_n (j := 1) rfl dX8_from_32 ?_
  have K2 : V G MX8_from (am_R 1 21 0 0) (am_Fin G 0 0 (Pm (fun r I' A' => r = some (.int (mz_from (A m_classes) (A m_homes) (A m_fetches) (A m_into) 2 v)) ∧ I = I' ∧ A = A'))) 0 0 46 [(0, .ref mM), (1, .int (nI v)), (2, .int (mz_reg (A m_classes v) (A m_homes v))), (3, .int (nI 0))] [.int (if A m_fetches 0 = nI v then A m_into 0 else mz_reg (A m_classes v) (A m_homes v))] (hp I A) := by
    refine V.istore_n (ls' := [(0, .ref mM), (1, .int (nI v)), (2, .int (if A m_fetches 0 = nI v then A m_into 0 else mz_reg (A m_classes v) (A m_homes v))), (3, .int (nI 0))]) dX8_from_46 (by decide) rfl ?_
    refine V.iincN (ls' := [(0, .ref mM), (1, .int (nI v)), (2, .int (if A m_fetches 0 = nI v then A m_into 0 else mz_reg (A m_classes v) (A m_homes v))), (3, .int (nI 1))]) dX8_from_47 (j := 3) rfl (by decide) rfl ?_
    refine V.goto (tgt := 18) dX8_from_50 (by decide) ?_
    refine V.iload_n (j := 3) rfl dX8_from_18 ?_
    refine V.aload_n (j := 0) rfl dX8_from_19 ?_
    refine V.geti (v := nI 2) dX8_from_20 fX8_127 rfl rfl hq ?_
    refine V.icmp_ge (tgt := 53) dX8_from_23 (by decide) (fun z => absurd z (by decide)) (fun _ => ?_)
    refine V.aload_n (j := 0) rfl dX8_from_26 ?_
    refine V.getr (q := m_fetches) dX8_from_27 fX8_73 rfl rfl ?_
    refine V.iload_n (j := 3) rfl dX8_from_30 ?_
    refine V.lda (v := A m_fetches 1) dX8_from_31 rfl (by decide) (by decide) rfl ?_
    refine V.iload_n (j := 1) rfl dX8_from_32 ?_
    have K4 : V G MX8_from (am_R 1 21 0 0) (am_Fin G 0 0 (Pm (fun r I' A' => r = some (.int (mz_from (A m_classes) (A m_homes) (A m_fetches) (A m_into) 2 v)) ∧ I = I' ∧ A = A'))) 0 0 46 [(0, .ref mM), (1, .int (nI v)), (2, .int (if A m_fetches 0 = nI v then A m_into 0 else mz_reg (A m_classes v) (A m_homes v))), (3, .int (nI 1))] [.int (if A m_fetches 1 = nI v then A m_into 1 else if A m_fetches 0 = nI v then A m_into 0 else mz_reg (A m_classes v) (A m_homes v))] (hp I A) := by
      refine V.istore_n (ls' := [(0, .ref mM), (1, .int (nI v)), (2, .int (if A m_fetches 1 = nI v then A m_into 1 else if A m_fetches 0 = nI v then A m_into 0 else mz_reg (A m_classes v) (A m_homes v))), (3, .int (nI 1))]) dX8_from_46 (by decide) rfl ?_
      refine V.iincN (ls' := [(0, .ref mM), (1, .int (nI v)), (2, .int (if A m_fetches 1 = nI v then A m_into 1 else if A m_fetches 0 = nI v then A m_into 0 else mz_reg (A m_classes v) (A m_homes v))), (3, .int (nI 2))]) dX8_from_47 (j := 3) rfl (by decide) rfl ?_
      refine V.goto (tgt := 18) dX8_from_50 (by decide) ?_
      refine V.iload_n (j := 3) rfl dX8_from_18 ?_
      refine V.aload_n (j := 0) rfl dX8_from_19 ?_
      refine V.geti (v := nI 2) dX8_from_20 fX8_127 rfl rfl hq ?_
      refine V.icmp_ge (tgt := 53) dX8_from_23 (by decide) (fun _ => ?_) (fun z => absurd z (by decide))
      refine V.iload_n (j := 2) rfl dX8_from_53 ?_
      refine V.ri dX8_from_54 rfl ?_
      exact ⟨rfl, rfl, rfl⟩
    refine V.icmp_ne (tgt := 45) dX8_from_33 (by decide) (fun c6 => ?_) (fun c6 => ?_)
    · refine V.iload_n (j := 2) rfl dX8_from_45 ?_
      exact V.st (by rw [if_neg c6]) K4
    · refine V.aload_n (j := 0) rfl dX8_from_36 ?_
      refine V.getr (q := m_into) dX8_from_37 fX8_76 rfl rfl ?_
      refine V.iload_n (j := 3) rfl dX8_from_40 ?_
      refine V.lda (v := A m_into 1) dX8_from_41 rfl (by decide) (by decide) rfl ?_
      refine V.goto (tgt := 46) dX8_from_42 (by decide) ?_
      exact V.st (by rw [if_pos c6]) K4
  refine V.icmp_ne (tgt := 45) dX8_from_33 (by decide) (fun c7 => ?_) (fun c7 => ?_)
  · refine V.iload_n (j := 2) rfl dX8_from_45 ?_
    exact V.st (by rw [if_neg c7]) K2
  · refine V.aload_n (j := 0) rfl dX8_from_36 ?_
    refine V.getr (q := m_into) dX8_from_37 fX8_76 rfl rfl ?_
    refine V.iload_n (j := 3) rfl dX8_from_40 ?_
    refine V.lda (v := A m_into 0) dX8_from_41 rfl (by decide) (by decide) rfl ?_
    refine V.goto (tgt := 46) dX8_from_42 (by decide) ?_
    exact V.st (by rw [if_pos c7]) K2
theorem md_from {G : am_G} (I A : Nat → Nat → Int32) (q : Nat) (hq2 : q ≤ 2) (hq : I mM 25 = nI q) (v : Nat) (hv : v < 24) : Cm G MX8_from 1 21 [.ref mM, .int (nI v)] I A (fun r I' A' => r = some (.int (mz_from (A m_classes) (A m_homes) (A m_fetches) (A m_into) q v)) ∧ I = I' ∧ A = A') := by
  rcases (show q = 0 ∨ q = 1 ∨ q = 2 by omega) with rfl | rfl | rfl
  · exact md_from0 I A hq v hv
  · exact md_from1 I A hq v hv
  · exact md_from2 I A hq v hv
abbrev mz_FS : Type := Nat × (Nat → Int32) × (Nat → Int32) × (Nat → Int32) × Nat
/-- a value is fetched: how many are, which, where to, the code, the number of items -/
def mz_ft (cl hm : Nat → Int32) (v : Nat) (F : mz_FS) : mz_FS :=
  if F.1 = 1 ∧ F.2.1 0 = nI v then F else
  (F.1 + 1, upd F.2.1 F.1 (nI v), upd F.2.2.1 F.1 (mz_reg (cl v) (if F.1 = 1 ∧ cl (F.2.1 0).toNatClampNeg = cl v then nI 9 else nI 8)), mz_lay F.2.2.2.1 F.2.2.2.2 (nI 11) (mz_reg (cl v) (if F.1 = 1 ∧ cl (F.2.1 0).toNatClampNeg = cl v then nI 9 else nI 8)) (hm v - nI 100) (nI 0), F.2.2.2.2 + 1)
theorem mz_ft0 {cl hm fe it c : Nat → Int32} {v n : Nat} : mz_ft cl hm v (0, fe, it, c, n) = (1, upd fe 0 (nI v), upd it 0 (mz_reg (cl v) (nI 8)), mz_lay c n (nI 11) (mz_reg (cl v) (nI 8)) (hm v - nI 100) (nI 0), n + 1) := by
  unfold mz_ft
  have h0 : ¬ (0 = 1) := by decide
  rw [if_neg (fun z => h0 z.1), if_neg (fun z => h0 z.1)]
theorem mz_ft1s {cl hm fe it c : Nat → Int32} {v n : Nat} (h : fe 0 = nI v) : mz_ft cl hm v (1, fe, it, c, n) = (1, fe, it, c, n) := by
  unfold mz_ft
  rw [if_pos ⟨rfl, h⟩]
theorem mz_ft1d {cl hm fe it c : Nat → Int32} {v n f : Nat} (hf : f < 2 ^ 31) (hv : v < 2 ^ 31) (h : fe 0 = nI f) (hne : ¬ f = v) : mz_ft cl hm v (1, fe, it, c, n) = (2, upd fe 1 (nI v), upd it 1 (mz_reg (cl v) (if cl f = cl v then nI 9 else nI 8)), mz_lay c n (nI 11) (mz_reg (cl v) (if cl f = cl v then nI 9 else nI 8)) (hm v - nI 100) (nI 0), n + 1) := by
  have e : (if (1 = 1 ∧ cl (fe 0).toNatClampNeg = cl v) then nI 9 else nI 8) = if cl f = cl v then nI 9 else nI 8 := by
    rw [h, nI_clamp hf]
    simp
  unfold mz_ft
  rw [if_neg (fun z => hne ((nI_eq hf hv).mp (h.symm.trans z.2)))]
  dsimp only
  rw [e]
/-- the rows that a fetch moves -/
def mz_FA (A : Nat → Nat → Int32) (g : Nat → Int32) (F : mz_FS) : Nat → Nat → Int32 := upA (upA (upA (upA A m_fetches F.2.1) m_into F.2.2.1) m_code F.2.2.2.1) m_items (upd g 0 (nI F.2.2.2.2))
theorem mz_FA_i {A : Nat → Nat → Int32} {g : Nat → Int32} {q n : Nat} (hg : A m_items = upd g 0 (nI n)) : mz_FA A g (q, A m_fetches, A m_into, A m_code, n) = A := by
  unfold mz_FA
  dsimp only
  rw [upA_i, upA_i, upA_i, ← hg, upA_i]
set_option maxRecDepth 100000 in
set_option maxHeartbeats 4000000 in
theorem md_fetch0 {G : am_G} (I A : Nat → Nat → Int32) (hq : I mM 25 = nI 0) (g : Nat → Int32) (n : Nat) (hg : A m_items = upd g 0 (nI n)) (hn : n < 400) (v : Nat) (hv : v < 24) : Cm G MX8_fetch 1 25 [.ref mM, .int (nI v)] I A (fun r I' A' => r = none ∧ upI I mM 25 (nI (mz_ft (A m_classes) (A m_homes) v (0, A m_fetches, A m_into, A m_code, n)).1) = I' ∧ mz_FA A g (mz_ft (A m_classes) (A m_homes) v (0, A m_fetches, A m_into, A m_code, n)) = A') := by
  refine Cm.of (by decide) (Nat.le_of_ble_eq_true rfl) rfl ?_
  show V G MX8_fetch (am_R 1 25 0 0) _ 0 0 0 [(0, .ref mM), (1, .int (nI v))] [] (hp I A)
  refine V.bipush (v := nI 8) (by decide) dX8_fetch_0 ?_
  refine V.istore_n (ls' := [(0, .ref mM), (1, .int (nI v)), (2, .int (nI 8))]) dX8_fetch_2 (by decide) rfl ?_
  refine V.iconst (v := nI 0) (by decide) dX8_fetch_3 ?_
  refine V.istore_n (ls' := [(0, .ref mM), (1, .int (nI v)), (2, .int (nI 8)), (3, .int (nI 0))]) dX8_fetch_4 (by decide) rfl ?_
  refine V.iload_n (j := 3) rfl dX8_fetch_5 ?_
  refine V.aload_n (j := 0) rfl dX8_fetch_6 ?_
  refine V.geti (v := nI 0) dX8_fetch_7 fX8_127 rfl rfl hq ?_
  refine V.icmp_ge (tgt := 57) dX8_fetch_10 (by decide) (fun _ => ?_) (fun z => absurd z (by decide))
  refine V.aload_n (j := 0) rfl dX8_fetch_57 ?_
  refine V.getr (q := m_fetches) dX8_fetch_58 fX8_73 rfl rfl ?_
  refine V.aload_n (j := 0) rfl dX8_fetch_61 ?_
  refine V.geti (v := nI 0) dX8_fetch_62 fX8_127 rfl rfl hq ?_
  refine V.iload_n (j := 1) rfl dX8_fetch_65 ?_
  refine V.sta (g := upd (A m_fetches) 0 (nI v)) dX8_fetch_66 rfl (by decide) (by decide) rfl ?_
  refine V.aload_n (j := 0) rfl dX8_fetch_67 ?_
  refine V.getr (q := m_into) dX8_fetch_68 fX8_76 rfl rfl ?_
  refine V.aload_n (j := 0) rfl dX8_fetch_71 ?_
  refine V.geti (v := nI 0) dX8_fetch_72 fX8_127 rfl rfl hq ?_
  refine V.aload_n (j := 0) rfl dX8_fetch_75 ?_
  refine V.getr (q := m_classes) dX8_fetch_76 fX8_7 rfl rfl ?_
  refine V.iload_n (j := 1) rfl dX8_fetch_79 ?_
  refine V.lda (v := A m_classes v) dX8_fetch_80 rfl (by omega) (by decide) rfl ?_
  refine V.iload_n (j := 2) rfl dX8_fetch_81 ?_
  refine V.cS (As := [.int (A m_classes v), .int (nI 8)]) (st := [.int (nI 0), .ref m_into]) dX8_fetch_82 sX8_130 zX8_register (md_reg I (upA A m_fetches (upd (A m_fetches) 0 (nI v))) _ _) ⟨by decide, by decide⟩ (Nat.le_of_ble_eq_true rfl) rfl (fun r I' A' hq => ?_)
  obtain ⟨rfl, rfl, rfl⟩ := hq
  refine V.st (st' := [.int (mz_reg (A m_classes v) (nI 8)), .int (nI 0), .ref m_into]) rfl ?_
  refine V.sta (g := upd (A m_into) 0 (mz_reg (A m_classes v) (nI 8))) dX8_fetch_85 rfl (by decide) (by decide) rfl ?_
  refine V.aload_n (j := 0) rfl dX8_fetch_86 ?_
  refine V.dup rfl dX8_fetch_87 ?_
  refine V.geti (v := nI 0) dX8_fetch_88 fX8_127 rfl rfl hq ?_
  refine V.iconst (v := nI 1) (by decide) dX8_fetch_91 ?_
  refine V.iaddN dX8_fetch_92 ?_
  refine V.st (st' := [.int (nI 1), .ref mM]) rfl ?_
  refine V.puti dX8_fetch_93 pX8_127 rfl rfl ?_
  refine V.aload_n (j := 0) rfl dX8_fetch_96 ?_
  refine V.bipush (v := nI 11) (by decide) dX8_fetch_97 ?_
  refine V.aload_n (j := 0) rfl dX8_fetch_99 ?_
  refine V.getr (q := m_classes) dX8_fetch_100 fX8_7 rfl rfl ?_
  refine V.iload_n (j := 1) rfl dX8_fetch_103 ?_
  refine V.lda (v := A m_classes v) dX8_fetch_104 rfl (by omega) (by decide) rfl ?_
  refine V.iload_n (j := 2) rfl dX8_fetch_105 ?_
  refine V.cS (As := [.int (A m_classes v), .int (nI 8)]) (st := [.int (nI 11), .ref mM]) dX8_fetch_106 sX8_130 zX8_register (md_reg (upI I mM 25 (nI 1)) (upA (upA A m_fetches (upd (A m_fetches) 0 (nI v))) m_into (upd (A m_into) 0 (mz_reg (A m_classes v) (nI 8)))) _ _) ⟨by decide, by decide⟩ (Nat.le_of_ble_eq_true rfl) rfl (fun r I' A' hq => ?_)
  obtain ⟨rfl, rfl, rfl⟩ := hq
  refine V.st (st' := [.int (mz_reg (A m_classes v) (nI 8)), .int (nI 11), .ref mM]) rfl ?_
  refine V.aload_n (j := 0) rfl dX8_fetch_109 ?_
  refine V.getr (q := m_homes) dX8_fetch_110 fX8_46 rfl rfl ?_
  refine V.iload_n (j := 1) rfl dX8_fetch_113 ?_
  refine V.lda (v := A m_homes v) dX8_fetch_114 rfl (by omega) (by decide) rfl ?_
  refine V.bipush (v := nI 100) (by decide) dX8_fetch_115 ?_
  refine V.isub dX8_fetch_117 ?_
  refine V.iconst (v := nI 0) (by decide) dX8_fetch_118 ?_
  refine V.cV (As := [.int (nI 11), .int (mz_reg (A m_classes v) (nI 8)), .int ((A m_homes v) - (nI 100)), .int (nI 0)]) (st := []) dX8_fetch_119 sX8_133 iX8_lay lX8_lay rfl rfl (md_lay (upI I mM 25 (nI 1)) (upA (upA A m_fetches (upd (A m_fetches) 0 (nI v))) m_into (upd (A m_into) 0 (mz_reg (A m_classes v) (nI 8)))) g n hg (by omega) _ _ _ _) ⟨by decide, by decide⟩ (Nat.le_of_ble_eq_true rfl) rfl (fun r I' A' hq => ?_)
  obtain ⟨rfl, rfl, rfl⟩ := hq
  refine V.st (st' := []) rfl ?_
  refine V.rv dX8_fetch_122 rfl ?_
  exact ⟨rfl, by rw [mz_ft0], by rw [mz_ft0]; rfl⟩
set_option maxRecDepth 100000 in
set_option maxHeartbeats 4000000 in
theorem md_fetch1 {G : am_G} (I A : Nat → Nat → Int32) (hq : I mM 25 = nI 1) (f : Nat) (hf24 : f < 24) (hf : A m_fetches 0 = nI f) (g : Nat → Int32) (n : Nat) (hg : A m_items = upd g 0 (nI n)) (hn : n < 400) (v : Nat) (hv : v < 24) : Cm G MX8_fetch 1 25 [.ref mM, .int (nI v)] I A (fun r I' A' => r = none ∧ upI I mM 25 (nI (mz_ft (A m_classes) (A m_homes) v (1, A m_fetches, A m_into, A m_code, n)).1) = I' ∧ mz_FA A g (mz_ft (A m_classes) (A m_homes) v (1, A m_fetches, A m_into, A m_code, n)) = A') := by
  refine Cm.of (by decide) (Nat.le_of_ble_eq_true rfl) rfl ?_
  show V G MX8_fetch (am_R 1 25 0 0) _ 0 0 0 [(0, .ref mM), (1, .int (nI v))] [] (hp I A)
  refine V.bipush (v := nI 8) (by decide) dX8_fetch_0 ?_
  refine V.istore_n (ls' := [(0, .ref mM), (1, .int (nI v)), (2, .int (nI 8))]) dX8_fetch_2 (by decide) rfl ?_
  refine V.iconst (v := nI 0) (by decide) dX8_fetch_3 ?_
  refine V.istore_n (ls' := [(0, .ref mM), (1, .int (nI v)), (2, .int (nI 8)), (3, .int (nI 0))]) dX8_fetch_4 (by decide) rfl ?_
  refine V.iload_n (j := 3) rfl dX8_fetch_5 ?_
  refine V.aload_n (j := 0) rfl dX8_fetch_6 ?_
  refine V.geti (v := nI 1) dX8_fetch_7 fX8_127 rfl rfl hq ?_
  refine V.icmp_ge (tgt := 57) dX8_fetch_10 (by decide) (fun z => absurd z (by decide)) (fun _ => ?_)
  refine V.aload_n (j := 0) rfl dX8_fetch_13 ?_
  refine V.getr (q := m_fetches) dX8_fetch_14 fX8_73 rfl rfl ?_
  refine V.iload_n (j := 3) rfl dX8_fetch_17 ?_
  refine V.lda (v := nI f) dX8_fetch_18 rfl (by decide) (by decide) hf ?_
  refine V.iload_n (j := 1) rfl dX8_fetch_19 ?_
  refine V.icmp_neN (tgt := 24) dX8_fetch_20 (by decide) (by omega) (by omega) (fun c2 => ?_) (fun c2 => ?_)
  · refine V.aload_n (j := 0) rfl dX8_fetch_24 ?_
    refine V.getr (q := m_classes) dX8_fetch_25 fX8_7 rfl rfl ?_
    refine V.aload_n (j := 0) rfl dX8_fetch_28 ?_
    refine V.getr (q := m_fetches) dX8_fetch_29 fX8_73 rfl rfl ?_
    refine V.iload_n (j := 3) rfl dX8_fetch_32 ?_
    refine V.lda (v := nI f) dX8_fetch_33 rfl (by decide) (by decide) hf ?_
    refine V.lda (v := A m_classes f) dX8_fetch_34 rfl (by omega) (by decide) rfl ?_
    refine V.aload_n (j := 0) rfl dX8_fetch_35 ?_
    refine V.getr (q := m_classes) dX8_fetch_36 fX8_7 rfl rfl ?_
    refine V.iload_n (j := 1) rfl dX8_fetch_39 ?_
    refine V.lda (v := A m_classes v) dX8_fetch_40 rfl (by omega) (by decide) rfl ?_
    have K3 : V G MX8_fetch (am_R 1 25 0 0) (am_Fin G 0 0 (Pm (fun r I' A' => r = none ∧ upI I mM 25 (nI (mz_ft (A m_classes) (A m_homes) v (1, A m_fetches, A m_into, A m_code, n)).1) = I' ∧ mz_FA A g (mz_ft (A m_classes) (A m_homes) v (1, A m_fetches, A m_into, A m_code, n)) = A'))) 0 0 50 [(0, .ref mM), (1, .int (nI v)), (2, .int (nI 8)), (3, .int (nI 0))] [.int (if A m_classes f = A m_classes v then nI 9 else nI 8)] (hp I A) := by
      refine V.istore_n (ls' := [(0, .ref mM), (1, .int (nI v)), (2, .int (if A m_classes f = A m_classes v then nI 9 else nI 8)), (3, .int (nI 0))]) dX8_fetch_50 (by decide) rfl ?_
      refine V.iincN (ls' := [(0, .ref mM), (1, .int (nI v)), (2, .int (if A m_classes f = A m_classes v then nI 9 else nI 8)), (3, .int (nI 1))]) dX8_fetch_51 (j := 3) rfl (by decide) rfl ?_
      refine V.goto (tgt := 5) dX8_fetch_54 (by decide) ?_
      refine V.iload_n (j := 3) rfl dX8_fetch_5 ?_
      refine V.aload_n (j := 0) rfl dX8_fetch_6 ?_
      refine V.geti (v := nI 1) dX8_fetch_7 fX8_127 rfl rfl hq ?_
      refine V.icmp_ge (tgt := 57) dX8_fetch_10 (by decide) (fun _ => ?_) (fun z => absurd z (by decide))
      refine V.aload_n (j := 0) rfl dX8_fetch_57 ?_
      refine V.getr (q := m_fetches) dX8_fetch_58 fX8_73 rfl rfl ?_
      refine V.aload_n (j := 0) rfl dX8_fetch_61 ?_
      refine V.geti (v := nI 1) dX8_fetch_62 fX8_127 rfl rfl hq ?_
      refine V.iload_n (j := 1) rfl dX8_fetch_65 ?_
      refine V.sta (g := upd (A m_fetches) 1 (nI v)) dX8_fetch_66 rfl (by decide) (by decide) rfl ?_
      refine V.aload_n (j := 0) rfl dX8_fetch_67 ?_
      refine V.getr (q := m_into) dX8_fetch_68 fX8_76 rfl rfl ?_
      refine V.aload_n (j := 0) rfl dX8_fetch_71 ?_
      refine V.geti (v := nI 1) dX8_fetch_72 fX8_127 rfl rfl hq ?_
      refine V.aload_n (j := 0) rfl dX8_fetch_75 ?_
      refine V.getr (q := m_classes) dX8_fetch_76 fX8_7 rfl rfl ?_
      refine V.iload_n (j := 1) rfl dX8_fetch_79 ?_
      refine V.lda (v := A m_classes v) dX8_fetch_80 rfl (by omega) (by decide) rfl ?_
      refine V.iload_n (j := 2) rfl dX8_fetch_81 ?_
      refine V.cS (As := [.int (A m_classes v), .int (if A m_classes f = A m_classes v then nI 9 else nI 8)]) (st := [.int (nI 1), .ref m_into]) dX8_fetch_82 sX8_130 zX8_register (md_reg I (upA A m_fetches (upd (A m_fetches) 1 (nI v))) _ _) ⟨by decide, by decide⟩ (Nat.le_of_ble_eq_true rfl) rfl (fun r I' A' hq => ?_)
      obtain ⟨rfl, rfl, rfl⟩ := hq
      refine V.st (st' := [.int (mz_reg (A m_classes v) (if A m_classes f = A m_classes v then nI 9 else nI 8)), .int (nI 1), .ref m_into]) rfl ?_
      refine V.sta (g := upd (A m_into) 1 (mz_reg (A m_classes v) (if A m_classes f = A m_classes v then nI 9 else nI 8))) dX8_fetch_85 rfl (by decide) (by decide) rfl ?_
      refine V.aload_n (j := 0) rfl dX8_fetch_86 ?_
      refine V.dup rfl dX8_fetch_87 ?_
      refine V.geti (v := nI 1) dX8_fetch_88 fX8_127 rfl rfl hq ?_
      refine V.iconst (v := nI 1) (by decide) dX8_fetch_91 ?_
      refine V.iaddN dX8_fetch_92 ?_
      refine V.st (st' := [.int (nI 2), .ref mM]) rfl ?_
      refine V.puti dX8_fetch_93 pX8_127 rfl rfl ?_
      refine V.aload_n (j := 0) rfl dX8_fetch_96 ?_
      refine V.bipush (v := nI 11) (by decide) dX8_fetch_97 ?_
      refine V.aload_n (j := 0) rfl dX8_fetch_99 ?_
      refine V.getr (q := m_classes) dX8_fetch_100 fX8_7 rfl rfl ?_
      refine V.iload_n (j := 1) rfl dX8_fetch_103 ?_
      refine V.lda (v := A m_classes v) dX8_fetch_104 rfl (by omega) (by decide) rfl ?_
      refine V.iload_n (j := 2) rfl dX8_fetch_105 ?_
      refine V.cS (As := [.int (A m_classes v), .int (if A m_classes f = A m_classes v then nI 9 else nI 8)]) (st := [.int (nI 11), .ref mM]) dX8_fetch_106 sX8_130 zX8_register (md_reg (upI I mM 25 (nI 2)) (upA (upA A m_fetches (upd (A m_fetches) 1 (nI v))) m_into (upd (A m_into) 1 (mz_reg (A m_classes v) (if A m_classes f = A m_classes v then nI 9 else nI 8)))) _ _) ⟨by decide, by decide⟩ (Nat.le_of_ble_eq_true rfl) rfl (fun r I' A' hq => ?_)
      obtain ⟨rfl, rfl, rfl⟩ := hq
      refine V.st (st' := [.int (mz_reg (A m_classes v) (if A m_classes f = A m_classes v then nI 9 else nI 8)), .int (nI 11), .ref mM]) rfl ?_
      refine V.aload_n (j := 0) rfl dX8_fetch_109 ?_
      refine V.getr (q := m_homes) dX8_fetch_110 fX8_46 rfl rfl ?_
      refine V.iload_n (j := 1) rfl dX8_fetch_113 ?_
      refine V.lda (v := A m_homes v) dX8_fetch_114 rfl (by omega) (by decide) rfl ?_
      refine V.bipush (v := nI 100) (by decide) dX8_fetch_115 ?_
      refine V.isub dX8_fetch_117 ?_
      refine V.iconst (v := nI 0) (by decide) dX8_fetch_118 ?_
      refine V.cV (As := [.int (nI 11), .int (mz_reg (A m_classes v) (if A m_classes f = A m_classes v then nI 9 else nI 8)), .int ((A m_homes v) - (nI 100)), .int (nI 0)]) (st := []) dX8_fetch_119 sX8_133 iX8_lay lX8_lay rfl rfl (md_lay (upI I mM 25 (nI 2)) (upA (upA A m_fetches (upd (A m_fetches) 1 (nI v))) m_into (upd (A m_into) 1 (mz_reg (A m_classes v) (if A m_classes f = A m_classes v then nI 9 else nI 8)))) g n hg (by omega) _ _ _ _) ⟨by decide, by decide⟩ (Nat.le_of_ble_eq_true rfl) rfl (fun r I' A' hq => ?_)
      obtain ⟨rfl, rfl, rfl⟩ := hq
      refine V.st (st' := []) rfl ?_
      refine V.rv dX8_fetch_122 rfl ?_
      have e := mz_ft1d (cl := A m_classes) (hm := A m_homes) (it := A m_into) (c := A m_code) (n := n) (show f < 2 ^ 31 by omega) (show v < 2 ^ 31 by omega) hf c2
      exact ⟨rfl, by rw [e], by rw [e]; rfl⟩
    refine V.icmp_ne (tgt := 49) dX8_fetch_41 (by decide) (fun c5 => ?_) (fun c5 => ?_)
    · refine V.iload_n (j := 2) rfl dX8_fetch_49 ?_
      exact V.st (by rw [if_neg c5]) K3
    · refine V.bipush (v := nI 9) (by decide) dX8_fetch_44 ?_
      refine V.goto (tgt := 50) dX8_fetch_46 (by decide) ?_
      exact V.st (by rw [if_pos c5]) K3
  · refine V.rv dX8_fetch_23 rfl ?_
    have e : A m_fetches 0 = nI v := by rw [hf, c2]
    exact ⟨rfl, by rw [mz_ft1s e, ← hq, upI_i], by rw [mz_ft1s e, mz_FA_i hg]⟩
end
section
theorem mz_FA_FA {A : Nat → Nat → Int32} {g : Nat → Int32} {F1 F2 : mz_FS} : mz_FA (mz_FA A g F1) g F2 = mz_FA A g F2 := by
  funext b
  by_cases h1 : b = m_items
  · subst h1; simp [mz_FA, upA]
  · by_cases h2 : b = m_code
    · subst h2; simp [mz_FA, upA]
    · by_cases h3 : b = m_into
      · subst h3; simp [mz_FA, upA]
      · by_cases h4 : b = m_fetches
        · subst h4; simp [mz_FA, upA]
        · simp [mz_FA, upA, h1, h2, h3, h4]
/-- a value that a step takes is fetched, if it has a slot -/
def mz_f1 (cl hm : Nat → Int32) (v : Int32) (F : mz_FS) : mz_FS := if v = (-1) then F else if hm v.toNatClampNeg < nI 100 then F else mz_ft cl hm v.toNatClampNeg F
theorem mz_f1_m {cl hm : Nat → Int32} {F : mz_FS} : mz_f1 cl hm (-1) F = F := if_pos rfl
theorem mz_f1_r {cl hm : Nat → Int32} {F : mz_FS} {v : Nat} (hv : v < 2 ^ 31) (h : hm v < nI 100) : mz_f1 cl hm (nI v) F = F := by
  unfold mz_f1
  rw [if_neg (nI_nm1 hv), nI_clamp hv, if_pos h]
theorem mz_f1_s {cl hm : Nat → Int32} {F : mz_FS} {v : Nat} (hv : v < 2 ^ 31) (h : ¬ hm v < nI 100) : mz_f1 cl hm (nI v) F = mz_ft cl hm v F := by
  unfold mz_f1
  rw [if_neg (nI_nm1 hv), nI_clamp hv, if_neg h]
/-- what a step's fetches leave -/
def mz_f2 (op fa fb fc cl hm : Nat → Int32) (s : Nat) (F : mz_FS) : mz_FS := mz_f1 cl hm (mz_tak1 op fb fc s) (mz_f1 cl hm (mz_tak0 op fa fb s) F)
set_option maxRecDepth 100000 in
set_option maxHeartbeats 4000000 in
theorem ml_step1 {G : am_G} {Fn : Array Value → State → List Frame → State → Prop} (I A : Nat → Nat → Int32) (nv : Nat) (hnv : nv ≤ 24) (s : Nat) (hs : s < 60) (o xa xb xc : Int32) (h0 : mz_tak0 (A m_ops) (A m_first) (A m_second) s = (-1) ∨ ∃ a, a < nv ∧ mz_tak0 (A m_ops) (A m_first) (A m_second) s = nI a) (h1 : mz_tak1 (A m_ops) (A m_second) (A m_third) s = (-1) ∨ ∃ a, a < nv ∧ mz_tak1 (A m_ops) (A m_second) (A m_third) s = nI a) (g : Nat → Int32) (n : Nat) (hg : A m_items = upd g 0 (nI n)) (hn : n < 390) (hk : V G MX8_makeStep (am_R 2 48 0 0) Fn 0 0 121 [(0, .ref mM), (1, .int (nI s)), (2, .int o), (3, .int xa), (4, .int xb), (5, .int xc)] [] (hp (upI I mM 25 (nI (mz_f2 (A m_ops) (A m_first) (A m_second) (A m_third) (A m_classes) (A m_homes) s (0, A m_fetches, A m_into, A m_code, n)).1)) (mz_FA A g (mz_f2 (A m_ops) (A m_first) (A m_second) (A m_third) (A m_classes) (A m_homes) s (0, A m_fetches, A m_into, A m_code, n))))) : V G MX8_makeStep (am_R 2 48 0 0) Fn 0 0 68 [(0, .ref mM), (1, .int (nI s)), (2, .int o), (3, .int xa), (4, .int xb), (5, .int xc)] [] (hp I A) := by
  refine V.aload_n (j := 0) rfl dX8_makeStep_68 ?_
  refine V.iconst (v := nI 0) (by decide) dX8_makeStep_69 ?_
  refine V.puti dX8_makeStep_70 pX8_127 rfl rfl ?_
  refine V.iconst (v := nI 0) (by decide) dX8_makeStep_73 ?_
  refine V.istore (ls' := [(0, .ref mM), (1, .int (nI s)), (2, .int o), (3, .int xa), (4, .int xb), (5, .int xc), (6, .int (nI 0))]) dX8_makeStep_74 (by decide) rfl ?_
  refine V.iload (j := 6) rfl dX8_makeStep_76 ?_
  refine V.iconst (v := nI 2) (by decide) dX8_makeStep_78 ?_
  refine V.icmp_ge (tgt := 121) dX8_makeStep_79 (by decide) (fun z => absurd z (by decide)) (fun _ => ?_)
  refine V.aload_n (j := 0) rfl dX8_makeStep_82 ?_
  refine V.iload_n (j := 1) rfl dX8_makeStep_83 ?_
  refine V.iload (j := 6) rfl dX8_makeStep_84 ?_
  refine V.cV (As := [.int (nI s), .int (nI 0)]) (st := []) dX8_makeStep_86 sX8_98 iX8_taken lX8_taken rfl rfl (md_taken0 (upI I mM 25 (nI 0)) A s (by omega)) ⟨by decide, by decide⟩ (Nat.le_of_ble_eq_true rfl) rfl (fun r I' A' hq => ?_)
  obtain ⟨rfl, rfl, rfl⟩ := hq
  refine V.st (st' := [.int (mz_tak0 (A m_ops) (A m_first) (A m_second) s)]) rfl ?_
  refine V.istore (ls' := [(0, .ref mM), (1, .int (nI s)), (2, .int o), (3, .int xa), (4, .int xb), (5, .int xc), (6, .int (nI 0)), (7, .int (mz_tak0 (A m_ops) (A m_first) (A m_second) s))]) dX8_makeStep_89 (by decide) rfl ?_
  rcases h0 with e0 | ⟨b, hb, e0⟩
  · refine V.lse (ls' := [(0, .ref mM), (1, .int (nI s)), (2, .int o), (3, .int xa), (4, .int xb), (5, .int xc), (6, .int (nI 0)), (7, .int ((-1)))]) (by rw [e0]) ?_
    refine V.iload (j := 7) rfl dX8_makeStep_91 ?_
    refine V.iconst (v := (-1)) (by decide) dX8_makeStep_93 ?_
    refine V.icmp_eq (tgt := 115) dX8_makeStep_94 (by decide) (fun _ => ?_) (fun z => absurd rfl z)
    refine V.iincN (ls' := [(0, .ref mM), (1, .int (nI s)), (2, .int o), (3, .int xa), (4, .int xb), (5, .int xc), (6, .int (nI 1)), (7, .int ((-1)))]) dX8_makeStep_115 (j := 6) rfl (by decide) rfl ?_
    refine V.goto (tgt := 76) dX8_makeStep_118 (by decide) ?_
    refine V.iload (j := 6) rfl dX8_makeStep_76 ?_
    refine V.iconst (v := nI 2) (by decide) dX8_makeStep_78 ?_
    refine V.icmp_ge (tgt := 121) dX8_makeStep_79 (by decide) (fun z => absurd z (by decide)) (fun _ => ?_)
    refine V.aload_n (j := 0) rfl dX8_makeStep_82 ?_
    refine V.iload_n (j := 1) rfl dX8_makeStep_83 ?_
    refine V.iload (j := 6) rfl dX8_makeStep_84 ?_
    refine V.cV (As := [.int (nI s), .int (nI 1)]) (st := []) dX8_makeStep_86 sX8_98 iX8_taken lX8_taken rfl rfl (md_taken1 (upI I mM 25 (nI 0)) A s (by omega)) ⟨by decide, by decide⟩ (Nat.le_of_ble_eq_true rfl) rfl (fun r I' A' hq => ?_)
    obtain ⟨rfl, rfl, rfl⟩ := hq
    refine V.st (st' := [.int (mz_tak1 (A m_ops) (A m_second) (A m_third) s)]) rfl ?_
    refine V.istore (ls' := [(0, .ref mM), (1, .int (nI s)), (2, .int o), (3, .int xa), (4, .int xb), (5, .int xc), (6, .int (nI 1)), (7, .int (mz_tak1 (A m_ops) (A m_second) (A m_third) s))]) dX8_makeStep_89 (by decide) rfl ?_
    rcases h1 with e1 | ⟨c, hc, e1⟩
    · refine V.lse (ls' := [(0, .ref mM), (1, .int (nI s)), (2, .int o), (3, .int xa), (4, .int xb), (5, .int xc), (6, .int (nI 1)), (7, .int ((-1)))]) (by rw [e1]) ?_
      refine V.iload (j := 7) rfl dX8_makeStep_91 ?_
      refine V.iconst (v := (-1)) (by decide) dX8_makeStep_93 ?_
      refine V.icmp_eq (tgt := 115) dX8_makeStep_94 (by decide) (fun _ => ?_) (fun z => absurd rfl z)
      refine V.iincN (ls' := [(0, .ref mM), (1, .int (nI s)), (2, .int o), (3, .int xa), (4, .int xb), (5, .int xc), (6, .int (nI 2)), (7, .int ((-1)))]) dX8_makeStep_115 (j := 6) rfl (by decide) rfl ?_
      refine V.goto (tgt := 76) dX8_makeStep_118 (by decide) ?_
      refine V.iload (j := 6) rfl dX8_makeStep_76 ?_
      refine V.iconst (v := nI 2) (by decide) dX8_makeStep_78 ?_
      refine V.icmp_ge (tgt := 121) dX8_makeStep_79 (by decide) (fun _ => ?_) (fun z => absurd z (by decide))
      refine V.fewer [0, 1, 2, 3, 4, 5] rfl ?_
      have hk2 := hk
      unfold mz_f2 at hk2
      rw [e0, mz_f1_m, e1, mz_f1_m, mz_FA_i hg] at hk2
      exact hk2
    · refine V.lse (ls' := [(0, .ref mM), (1, .int (nI s)), (2, .int o), (3, .int xa), (4, .int xb), (5, .int xc), (6, .int (nI 1)), (7, .int (nI c))]) (by rw [e1]) ?_
      refine V.iload (j := 7) rfl dX8_makeStep_91 ?_
      refine V.iconst (v := (-1)) (by decide) dX8_makeStep_93 ?_
      refine V.icmp_eq (tgt := 115) dX8_makeStep_94 (by decide) (fun z => absurd z (nI_nm1 (by omega))) (fun _ => ?_)
      refine V.aload_n (j := 0) rfl dX8_makeStep_97 ?_
      refine V.getr (q := m_homes) dX8_makeStep_98 fX8_46 rfl rfl ?_
      refine V.iload (j := 7) rfl dX8_makeStep_101 ?_
      refine V.lda (v := A m_homes c) dX8_makeStep_103 rfl (by omega) (by decide) rfl ?_
      refine V.bipush (v := nI 100) (by decide) dX8_makeStep_104 ?_
      refine V.icmp_lt (tgt := 115) dX8_makeStep_106 (by decide) (fun c7 => ?_) (fun c7 => ?_)
      · refine V.iincN (ls' := [(0, .ref mM), (1, .int (nI s)), (2, .int o), (3, .int xa), (4, .int xb), (5, .int xc), (6, .int (nI 2)), (7, .int (nI c))]) dX8_makeStep_115 (j := 6) rfl (by decide) rfl ?_
        refine V.goto (tgt := 76) dX8_makeStep_118 (by decide) ?_
        refine V.iload (j := 6) rfl dX8_makeStep_76 ?_
        refine V.iconst (v := nI 2) (by decide) dX8_makeStep_78 ?_
        refine V.icmp_ge (tgt := 121) dX8_makeStep_79 (by decide) (fun _ => ?_) (fun z => absurd z (by decide))
        refine V.fewer [0, 1, 2, 3, 4, 5] rfl ?_
        have hk2 := hk
        unfold mz_f2 at hk2
        rw [e0, mz_f1_m, e1, mz_f1_r (show c < 2 ^ 31 by omega) c7, mz_FA_i hg] at hk2
        exact hk2
      · refine V.aload_n (j := 0) rfl dX8_makeStep_109 ?_
        refine V.iload (j := 7) rfl dX8_makeStep_110 ?_
        refine V.cV (As := [.int (nI c)]) (st := []) dX8_makeStep_112 sX8_137 iX8_fetch lX8_fetch rfl rfl (md_fetch0 (upI I mM 25 (nI 0)) A rfl g n hg (by omega) c (by omega)) ⟨by decide, by decide⟩ (Nat.le_of_ble_eq_true rfl) rfl (fun r I' A' hq => ?_)
        obtain ⟨rfl, rfl, rfl⟩ := hq
        refine V.st (st' := []) rfl ?_
        refine V.hpe (I' := (upI I mM 25 (nI 1))) (A' := (upA (upA (upA (upA A m_fetches (upd (A m_fetches) 0 (nI c))) m_into (upd (A m_into) 0 (mz_reg (A m_classes c) (nI 8)))) m_code (mz_lay (A m_code) n (nI 11) (mz_reg (A m_classes c) (nI 8)) (A m_homes c - nI 100) (nI 0))) m_items (upd g 0 (nI (n + 1))))) (by rw [mz_ft0, upI_u]) (by rw [mz_ft0]; rfl) ?_
        refine V.iincN (ls' := [(0, .ref mM), (1, .int (nI s)), (2, .int o), (3, .int xa), (4, .int xb), (5, .int xc), (6, .int (nI 2)), (7, .int (nI c))]) dX8_makeStep_115 (j := 6) rfl (by decide) rfl ?_
        refine V.goto (tgt := 76) dX8_makeStep_118 (by decide) ?_
        refine V.iload (j := 6) rfl dX8_makeStep_76 ?_
        refine V.iconst (v := nI 2) (by decide) dX8_makeStep_78 ?_
        refine V.icmp_ge (tgt := 121) dX8_makeStep_79 (by decide) (fun _ => ?_) (fun z => absurd z (by decide))
        refine V.fewer [0, 1, 2, 3, 4, 5] rfl ?_
        have hk2 := hk
        unfold mz_f2 at hk2
        rw [e0, mz_f1_m, e1, mz_f1_s (show c < 2 ^ 31 by omega) c7, mz_ft0] at hk2
        exact hk2
  · refine V.lse (ls' := [(0, .ref mM), (1, .int (nI s)), (2, .int o), (3, .int xa), (4, .int xb), (5, .int xc), (6, .int (nI 0)), (7, .int (nI b))]) (by rw [e0]) ?_
    refine V.iload (j := 7) rfl dX8_makeStep_91 ?_
    refine V.iconst (v := (-1)) (by decide) dX8_makeStep_93 ?_
    refine V.icmp_eq (tgt := 115) dX8_makeStep_94 (by decide) (fun z => absurd z (nI_nm1 (by omega))) (fun _ => ?_)
    refine V.aload_n (j := 0) rfl dX8_makeStep_97 ?_
    refine V.getr (q := m_homes) dX8_makeStep_98 fX8_46 rfl rfl ?_
    refine V.iload (j := 7) rfl dX8_makeStep_101 ?_
    refine V.lda (v := A m_homes b) dX8_makeStep_103 rfl (by omega) (by decide) rfl ?_
    refine V.bipush (v := nI 100) (by decide) dX8_makeStep_104 ?_
    refine V.icmp_lt (tgt := 115) dX8_makeStep_106 (by decide) (fun c11 => ?_) (fun c11 => ?_)
    · refine V.iincN (ls' := [(0, .ref mM), (1, .int (nI s)), (2, .int o), (3, .int xa), (4, .int xb), (5, .int xc), (6, .int (nI 1)), (7, .int (nI b))]) dX8_makeStep_115 (j := 6) rfl (by decide) rfl ?_
      refine V.goto (tgt := 76) dX8_makeStep_118 (by decide) ?_
      refine V.iload (j := 6) rfl dX8_makeStep_76 ?_
      refine V.iconst (v := nI 2) (by decide) dX8_makeStep_78 ?_
      refine V.icmp_ge (tgt := 121) dX8_makeStep_79 (by decide) (fun z => absurd z (by decide)) (fun _ => ?_)
      refine V.aload_n (j := 0) rfl dX8_makeStep_82 ?_
      refine V.iload_n (j := 1) rfl dX8_makeStep_83 ?_
      refine V.iload (j := 6) rfl dX8_makeStep_84 ?_
      refine V.cV (As := [.int (nI s), .int (nI 1)]) (st := []) dX8_makeStep_86 sX8_98 iX8_taken lX8_taken rfl rfl (md_taken1 (upI I mM 25 (nI 0)) A s (by omega)) ⟨by decide, by decide⟩ (Nat.le_of_ble_eq_true rfl) rfl (fun r I' A' hq => ?_)
      obtain ⟨rfl, rfl, rfl⟩ := hq
      refine V.st (st' := [.int (mz_tak1 (A m_ops) (A m_second) (A m_third) s)]) rfl ?_
      refine V.istore (ls' := [(0, .ref mM), (1, .int (nI s)), (2, .int o), (3, .int xa), (4, .int xb), (5, .int xc), (6, .int (nI 1)), (7, .int (mz_tak1 (A m_ops) (A m_second) (A m_third) s))]) dX8_makeStep_89 (by decide) rfl ?_
      rcases h1 with e1 | ⟨c, hc, e1⟩
      · refine V.lse (ls' := [(0, .ref mM), (1, .int (nI s)), (2, .int o), (3, .int xa), (4, .int xb), (5, .int xc), (6, .int (nI 1)), (7, .int ((-1)))]) (by rw [e1]) ?_
        refine V.iload (j := 7) rfl dX8_makeStep_91 ?_
        refine V.iconst (v := (-1)) (by decide) dX8_makeStep_93 ?_
        refine V.icmp_eq (tgt := 115) dX8_makeStep_94 (by decide) (fun _ => ?_) (fun z => absurd rfl z)
        refine V.iincN (ls' := [(0, .ref mM), (1, .int (nI s)), (2, .int o), (3, .int xa), (4, .int xb), (5, .int xc), (6, .int (nI 2)), (7, .int ((-1)))]) dX8_makeStep_115 (j := 6) rfl (by decide) rfl ?_
        refine V.goto (tgt := 76) dX8_makeStep_118 (by decide) ?_
        refine V.iload (j := 6) rfl dX8_makeStep_76 ?_
        refine V.iconst (v := nI 2) (by decide) dX8_makeStep_78 ?_
        refine V.icmp_ge (tgt := 121) dX8_makeStep_79 (by decide) (fun _ => ?_) (fun z => absurd z (by decide))
        refine V.fewer [0, 1, 2, 3, 4, 5] rfl ?_
        have hk2 := hk
        unfold mz_f2 at hk2
        rw [e0, mz_f1_r (show b < 2 ^ 31 by omega) c11, e1, mz_f1_m, mz_FA_i hg] at hk2
        exact hk2
      · refine V.lse (ls' := [(0, .ref mM), (1, .int (nI s)), (2, .int o), (3, .int xa), (4, .int xb), (5, .int xc), (6, .int (nI 1)), (7, .int (nI c))]) (by rw [e1]) ?_
        refine V.iload (j := 7) rfl dX8_makeStep_91 ?_
        refine V.iconst (v := (-1)) (by decide) dX8_makeStep_93 ?_
        refine V.icmp_eq (tgt := 115) dX8_makeStep_94 (by decide) (fun z => absurd z (nI_nm1 (by omega))) (fun _ => ?_)
        refine V.aload_n (j := 0) rfl dX8_makeStep_97 ?_
        refine V.getr (q := m_homes) dX8_makeStep_98 fX8_46 rfl rfl ?_
        refine V.iload (j := 7) rfl dX8_makeStep_101 ?_
        refine V.lda (v := A m_homes c) dX8_makeStep_103 rfl (by omega) (by decide) rfl ?_
        refine V.bipush (v := nI 100) (by decide) dX8_makeStep_104 ?_
        refine V.icmp_lt (tgt := 115) dX8_makeStep_106 (by decide) (fun c16 => ?_) (fun c16 => ?_)
        · refine V.iincN (ls' := [(0, .ref mM), (1, .int (nI s)), (2, .int o), (3, .int xa), (4, .int xb), (5, .int xc), (6, .int (nI 2)), (7, .int (nI c))]) dX8_makeStep_115 (j := 6) rfl (by decide) rfl ?_
          refine V.goto (tgt := 76) dX8_makeStep_118 (by decide) ?_
          refine V.iload (j := 6) rfl dX8_makeStep_76 ?_
          refine V.iconst (v := nI 2) (by decide) dX8_makeStep_78 ?_
          refine V.icmp_ge (tgt := 121) dX8_makeStep_79 (by decide) (fun _ => ?_) (fun z => absurd z (by decide))
          refine V.fewer [0, 1, 2, 3, 4, 5] rfl ?_
          have hk2 := hk
          unfold mz_f2 at hk2
          rw [e0, mz_f1_r (show b < 2 ^ 31 by omega) c11, e1, mz_f1_r (show c < 2 ^ 31 by omega) c16, mz_FA_i hg] at hk2
          exact hk2
        · refine V.aload_n (j := 0) rfl dX8_makeStep_109 ?_
          refine V.iload (j := 7) rfl dX8_makeStep_110 ?_
          refine V.cV (As := [.int (nI c)]) (st := []) dX8_makeStep_112 sX8_137 iX8_fetch lX8_fetch rfl rfl (md_fetch0 (upI I mM 25 (nI 0)) A rfl g n hg (by omega) c (by omega)) ⟨by decide, by decide⟩ (Nat.le_of_ble_eq_true rfl) rfl (fun r I' A' hq => ?_)
          obtain ⟨rfl, rfl, rfl⟩ := hq
          refine V.st (st' := []) rfl ?_
          refine V.hpe (I' := (upI I mM 25 (nI 1))) (A' := (upA (upA (upA (upA A m_fetches (upd (A m_fetches) 0 (nI c))) m_into (upd (A m_into) 0 (mz_reg (A m_classes c) (nI 8)))) m_code (mz_lay (A m_code) n (nI 11) (mz_reg (A m_classes c) (nI 8)) (A m_homes c - nI 100) (nI 0))) m_items (upd g 0 (nI (n + 1))))) (by rw [mz_ft0, upI_u]) (by rw [mz_ft0]; rfl) ?_
          refine V.iincN (ls' := [(0, .ref mM), (1, .int (nI s)), (2, .int o), (3, .int xa), (4, .int xb), (5, .int xc), (6, .int (nI 2)), (7, .int (nI c))]) dX8_makeStep_115 (j := 6) rfl (by decide) rfl ?_
          refine V.goto (tgt := 76) dX8_makeStep_118 (by decide) ?_
          refine V.iload (j := 6) rfl dX8_makeStep_76 ?_
          refine V.iconst (v := nI 2) (by decide) dX8_makeStep_78 ?_
          refine V.icmp_ge (tgt := 121) dX8_makeStep_79 (by decide) (fun _ => ?_) (fun z => absurd z (by decide))
          refine V.fewer [0, 1, 2, 3, 4, 5] rfl ?_
          have hk2 := hk
          unfold mz_f2 at hk2
          rw [e0, mz_f1_r (show b < 2 ^ 31 by omega) c11, e1, mz_f1_s (show c < 2 ^ 31 by omega) c16, mz_ft0] at hk2
          exact hk2
    · refine V.aload_n (j := 0) rfl dX8_makeStep_109 ?_
      refine V.iload (j := 7) rfl dX8_makeStep_110 ?_
      refine V.cV (As := [.int (nI b)]) (st := []) dX8_makeStep_112 sX8_137 iX8_fetch lX8_fetch rfl rfl (md_fetch0 (upI I mM 25 (nI 0)) A rfl g n hg (by omega) b (by omega)) ⟨by decide, by decide⟩ (Nat.le_of_ble_eq_true rfl) rfl (fun r I' A' hq => ?_)
      obtain ⟨rfl, rfl, rfl⟩ := hq
      refine V.st (st' := []) rfl ?_
      refine V.hpe (I' := (upI I mM 25 (nI 1))) (A' := (upA (upA (upA (upA A m_fetches (upd (A m_fetches) 0 (nI b))) m_into (upd (A m_into) 0 (mz_reg (A m_classes b) (nI 8)))) m_code (mz_lay (A m_code) n (nI 11) (mz_reg (A m_classes b) (nI 8)) (A m_homes b - nI 100) (nI 0))) m_items (upd g 0 (nI (n + 1))))) (by rw [mz_ft0, upI_u]) (by rw [mz_ft0]; rfl) ?_
      refine V.iincN (ls' := [(0, .ref mM), (1, .int (nI s)), (2, .int o), (3, .int xa), (4, .int xb), (5, .int xc), (6, .int (nI 1)), (7, .int (nI b))]) dX8_makeStep_115 (j := 6) rfl (by decide) rfl ?_
      refine V.goto (tgt := 76) dX8_makeStep_118 (by decide) ?_
      refine V.iload (j := 6) rfl dX8_makeStep_76 ?_
      refine V.iconst (v := nI 2) (by decide) dX8_makeStep_78 ?_
      refine V.icmp_ge (tgt := 121) dX8_makeStep_79 (by decide) (fun z => absurd z (by decide)) (fun _ => ?_)
      refine V.aload_n (j := 0) rfl dX8_makeStep_82 ?_
      refine V.iload_n (j := 1) rfl dX8_makeStep_83 ?_
      refine V.iload (j := 6) rfl dX8_makeStep_84 ?_
      refine V.cV (As := [.int (nI s), .int (nI 1)]) (st := []) dX8_makeStep_86 sX8_98 iX8_taken lX8_taken rfl rfl (md_taken1 (upI I mM 25 (nI 1)) (upA (upA (upA (upA A m_fetches (upd (A m_fetches) 0 (nI b))) m_into (upd (A m_into) 0 (mz_reg (A m_classes b) (nI 8)))) m_code (mz_lay (A m_code) n (nI 11) (mz_reg (A m_classes b) (nI 8)) (A m_homes b - nI 100) (nI 0))) m_items (upd g 0 (nI (n + 1)))) s (by omega)) ⟨by decide, by decide⟩ (Nat.le_of_ble_eq_true rfl) rfl (fun r I' A' hq => ?_)
      obtain ⟨rfl, rfl, rfl⟩ := hq
      refine V.st (st' := [.int (mz_tak1 (A m_ops) (A m_second) (A m_third) s)]) rfl ?_
      refine V.istore (ls' := [(0, .ref mM), (1, .int (nI s)), (2, .int o), (3, .int xa), (4, .int xb), (5, .int xc), (6, .int (nI 1)), (7, .int (mz_tak1 (A m_ops) (A m_second) (A m_third) s))]) dX8_makeStep_89 (by decide) rfl ?_
      rcases h1 with e1 | ⟨c, hc, e1⟩
      · refine V.lse (ls' := [(0, .ref mM), (1, .int (nI s)), (2, .int o), (3, .int xa), (4, .int xb), (5, .int xc), (6, .int (nI 1)), (7, .int ((-1)))]) (by rw [e1]) ?_
        refine V.iload (j := 7) rfl dX8_makeStep_91 ?_
        refine V.iconst (v := (-1)) (by decide) dX8_makeStep_93 ?_
        refine V.icmp_eq (tgt := 115) dX8_makeStep_94 (by decide) (fun _ => ?_) (fun z => absurd rfl z)
        refine V.iincN (ls' := [(0, .ref mM), (1, .int (nI s)), (2, .int o), (3, .int xa), (4, .int xb), (5, .int xc), (6, .int (nI 2)), (7, .int ((-1)))]) dX8_makeStep_115 (j := 6) rfl (by decide) rfl ?_
        refine V.goto (tgt := 76) dX8_makeStep_118 (by decide) ?_
        refine V.iload (j := 6) rfl dX8_makeStep_76 ?_
        refine V.iconst (v := nI 2) (by decide) dX8_makeStep_78 ?_
        refine V.icmp_ge (tgt := 121) dX8_makeStep_79 (by decide) (fun _ => ?_) (fun z => absurd z (by decide))
        refine V.fewer [0, 1, 2, 3, 4, 5] rfl ?_
        have hk2 := hk
        unfold mz_f2 at hk2
        rw [e0, mz_f1_s (show b < 2 ^ 31 by omega) c11, mz_ft0, e1, mz_f1_m] at hk2
        exact hk2
      · refine V.lse (ls' := [(0, .ref mM), (1, .int (nI s)), (2, .int o), (3, .int xa), (4, .int xb), (5, .int xc), (6, .int (nI 1)), (7, .int (nI c))]) (by rw [e1]) ?_
        refine V.iload (j := 7) rfl dX8_makeStep_91 ?_
        refine V.iconst (v := (-1)) (by decide) dX8_makeStep_93 ?_
        refine V.icmp_eq (tgt := 115) dX8_makeStep_94 (by decide) (fun z => absurd z (nI_nm1 (by omega))) (fun _ => ?_)
        refine V.aload_n (j := 0) rfl dX8_makeStep_97 ?_
        refine V.getr (q := m_homes) dX8_makeStep_98 fX8_46 rfl rfl ?_
        refine V.iload (j := 7) rfl dX8_makeStep_101 ?_
        refine V.lda (v := A m_homes c) dX8_makeStep_103 rfl (by omega) (by decide) rfl ?_
        refine V.bipush (v := nI 100) (by decide) dX8_makeStep_104 ?_
        refine V.icmp_lt (tgt := 115) dX8_makeStep_106 (by decide) (fun c23 => ?_) (fun c23 => ?_)
        · refine V.iincN (ls' := [(0, .ref mM), (1, .int (nI s)), (2, .int o), (3, .int xa), (4, .int xb), (5, .int xc), (6, .int (nI 2)), (7, .int (nI c))]) dX8_makeStep_115 (j := 6) rfl (by decide) rfl ?_
          refine V.goto (tgt := 76) dX8_makeStep_118 (by decide) ?_
          refine V.iload (j := 6) rfl dX8_makeStep_76 ?_
          refine V.iconst (v := nI 2) (by decide) dX8_makeStep_78 ?_
          refine V.icmp_ge (tgt := 121) dX8_makeStep_79 (by decide) (fun _ => ?_) (fun z => absurd z (by decide))
          refine V.fewer [0, 1, 2, 3, 4, 5] rfl ?_
          have hk2 := hk
          unfold mz_f2 at hk2
          rw [e0, mz_f1_s (show b < 2 ^ 31 by omega) c11, mz_ft0, e1, mz_f1_r (show c < 2 ^ 31 by omega) c23] at hk2
          exact hk2
        · refine V.aload_n (j := 0) rfl dX8_makeStep_109 ?_
          refine V.iload (j := 7) rfl dX8_makeStep_110 ?_
          refine V.cV (As := [.int (nI c)]) (st := []) dX8_makeStep_112 sX8_137 iX8_fetch lX8_fetch rfl rfl (md_fetch1 (upI I mM 25 (nI 1)) (upA (upA (upA (upA A m_fetches (upd (A m_fetches) 0 (nI b))) m_into (upd (A m_into) 0 (mz_reg (A m_classes b) (nI 8)))) m_code (mz_lay (A m_code) n (nI 11) (mz_reg (A m_classes b) (nI 8)) (A m_homes b - nI 100) (nI 0))) m_items (upd g 0 (nI (n + 1)))) rfl b (by omega) rfl g (n + 1) rfl (by omega) c (by omega)) ⟨by decide, by decide⟩ (Nat.le_of_ble_eq_true rfl) rfl (fun r I' A' hq => ?_)
          obtain ⟨rfl, rfl, rfl⟩ := hq
          refine V.st (st' := []) rfl ?_
          refine V.hpe (I' := (upI I mM 25 (nI ((mz_ft (A m_classes) (A m_homes) c (1, upd (A m_fetches) 0 (nI b), upd (A m_into) 0 (mz_reg (A m_classes b) (nI 8)), mz_lay (A m_code) n (nI 11) (mz_reg (A m_classes b) (nI 8)) (A m_homes b - nI 100) (nI 0), n + 1)).1)))) (A' := (upA (upA (upA (upA A m_fetches ((mz_ft (A m_classes) (A m_homes) c (1, upd (A m_fetches) 0 (nI b), upd (A m_into) 0 (mz_reg (A m_classes b) (nI 8)), mz_lay (A m_code) n (nI 11) (mz_reg (A m_classes b) (nI 8)) (A m_homes b - nI 100) (nI 0), n + 1)).2.1)) m_into ((mz_ft (A m_classes) (A m_homes) c (1, upd (A m_fetches) 0 (nI b), upd (A m_into) 0 (mz_reg (A m_classes b) (nI 8)), mz_lay (A m_code) n (nI 11) (mz_reg (A m_classes b) (nI 8)) (A m_homes b - nI 100) (nI 0), n + 1)).2.2.1)) m_code ((mz_ft (A m_classes) (A m_homes) c (1, upd (A m_fetches) 0 (nI b), upd (A m_into) 0 (mz_reg (A m_classes b) (nI 8)), mz_lay (A m_code) n (nI 11) (mz_reg (A m_classes b) (nI 8)) (A m_homes b - nI 100) (nI 0), n + 1)).2.2.2.1)) m_items (upd g 0 (nI (mz_ft (A m_classes) (A m_homes) c (1, upd (A m_fetches) 0 (nI b), upd (A m_into) 0 (mz_reg (A m_classes b) (nI 8)), mz_lay (A m_code) n (nI 11) (mz_reg (A m_classes b) (nI 8)) (A m_homes b - nI 100) (nI 0), n + 1)).2.2.2.2)))) upI_u (mz_FA_FA (F1 := (1, upd (A m_fetches) 0 (nI b), upd (A m_into) 0 (mz_reg (A m_classes b) (nI 8)), mz_lay (A m_code) n (nI 11) (mz_reg (A m_classes b) (nI 8)) (A m_homes b - nI 100) (nI 0), n + 1)) (F2 := mz_ft (A m_classes) (A m_homes) c (1, upd (A m_fetches) 0 (nI b), upd (A m_into) 0 (mz_reg (A m_classes b) (nI 8)), mz_lay (A m_code) n (nI 11) (mz_reg (A m_classes b) (nI 8)) (A m_homes b - nI 100) (nI 0), n + 1))) ?_
          refine V.iincN (ls' := [(0, .ref mM), (1, .int (nI s)), (2, .int o), (3, .int xa), (4, .int xb), (5, .int xc), (6, .int (nI 2)), (7, .int (nI c))]) dX8_makeStep_115 (j := 6) rfl (by decide) rfl ?_
          refine V.goto (tgt := 76) dX8_makeStep_118 (by decide) ?_
          refine V.iload (j := 6) rfl dX8_makeStep_76 ?_
          refine V.iconst (v := nI 2) (by decide) dX8_makeStep_78 ?_
          refine V.icmp_ge (tgt := 121) dX8_makeStep_79 (by decide) (fun _ => ?_) (fun z => absurd z (by decide))
          refine V.fewer [0, 1, 2, 3, 4, 5] rfl ?_
          have hk2 := hk
          unfold mz_f2 at hk2
          rw [e0, mz_f1_s (show b < 2 ^ 31 by omega) c11, mz_ft0, e1, mz_f1_s (show c < 2 ^ 31 by omega) c23] at hk2
          exact hk2
set_option maxRecDepth 100000 in
set_option maxHeartbeats 4000000 in
theorem ml_step2_0 {G : am_G} {Fn : Array Value → State → List Frame → State → Prop} (I A : Nat → Nat → Int32) (s q : Nat) (hq2 : q ≤ 2) (hq : I mM 25 = nI q) (a : Nat) (ha : a < 24) (xb : Int32) (xc : Int32) (g : Nat → Int32) (n : Nat) (hg : A m_items = upd g 0 (nI n)) (hn : n < 395) (hk : V G MX8_makeStep (am_R 2 48 0 0) Fn 0 0 313 [(0, .ref mM), (1, .int (nI s))] [] (hp I (upA (upA A m_code (mz_lay (A m_code) n (nI 0) (mz_to (A m_classes) (A m_homes) a) (xb) (nI 0))) m_items (upd g 0 (nI (n + 1)))))) : V G MX8_makeStep (am_R 2 48 0 0) Fn 0 0 121 [(0, .ref mM), (1, .int (nI s)), (2, .int (nI 0)), (3, .int (nI a)), (4, .int xb), (5, .int xc)] [] (hp I A) := by
  refine V.iload_n (j := 2) rfl dX8_makeStep_121 ?_
  refine V.tableIn (tgt := 176) dX8_makeStep_122 (by decide) (by decide) rfl (by decide) ?_
  refine V.aload_n (j := 0) rfl dX8_makeStep_176 ?_
  refine V.iload_n (j := 2) rfl dX8_makeStep_177 ?_
  refine V.aload_n (j := 0) rfl dX8_makeStep_178 ?_
  refine V.iload_n (j := 3) rfl dX8_makeStep_179 ?_
  refine V.cV (As := [.int (nI a)]) (st := [.int (nI 0), .ref mM]) dX8_makeStep_180 sX8_141 iX8_to lX8_to rfl rfl (md_to I A a (by omega)) ⟨by decide, by decide⟩ (Nat.le_of_ble_eq_true rfl) rfl (fun r I' A' hq => ?_)
  obtain ⟨rfl, rfl, rfl⟩ := hq
  refine V.st (st' := [.int (mz_to (A m_classes) (A m_homes) a), .int (nI 0), .ref mM]) rfl ?_
  refine V.iload (j := 4) rfl dX8_makeStep_183 ?_
  refine V.iconst (v := nI 0) (by decide) dX8_makeStep_185 ?_
  refine V.cV (As := [.int (nI 0), .int (mz_to (A m_classes) (A m_homes) a), .int xb, .int (nI 0)]) (st := []) dX8_makeStep_186 sX8_133 iX8_lay lX8_lay rfl rfl (md_lay I A g n hg (by omega) _ _ _ _) ⟨by decide, by decide⟩ (Nat.le_of_ble_eq_true rfl) rfl (fun r I' A' hq => ?_)
  obtain ⟨rfl, rfl, rfl⟩ := hq
  refine V.st (st' := []) rfl ?_
  refine V.goto (tgt := 313) dX8_makeStep_189 (by decide) ?_
  refine V.fewer [0, 1] rfl ?_
  exact hk
set_option maxRecDepth 100000 in
set_option maxHeartbeats 4000000 in
theorem ml_step2_1 {G : am_G} {Fn : Array Value → State → List Frame → State → Prop} (I A : Nat → Nat → Int32) (s q : Nat) (hq2 : q ≤ 2) (hq : I mM 25 = nI q) (a : Nat) (ha : a < 24) (b : Nat) (hb : b < 24) (xc : Int32) (g : Nat → Int32) (n : Nat) (hg : A m_items = upd g 0 (nI n)) (hn : n < 395) (hk : V G MX8_makeStep (am_R 2 48 0 0) Fn 0 0 313 [(0, .ref mM), (1, .int (nI s))] [] (hp I (upA (upA A m_code (mz_lay (A m_code) n (nI 1) (mz_to (A m_classes) (A m_homes) a) (mz_from (A m_classes) (A m_homes) (A m_fetches) (A m_into) q b) (nI 0))) m_items (upd g 0 (nI (n + 1)))))) : V G MX8_makeStep (am_R 2 48 0 0) Fn 0 0 121 [(0, .ref mM), (1, .int (nI s)), (2, .int (nI 1)), (3, .int (nI a)), (4, .int (nI b)), (5, .int xc)] [] (hp I A) := by
  refine V.iload_n (j := 2) rfl dX8_makeStep_121 ?_
  refine V.tableIn (tgt := 192) dX8_makeStep_122 (by decide) (by decide) rfl (by decide) ?_
  refine V.aload_n (j := 0) rfl dX8_makeStep_192 ?_
  refine V.iload_n (j := 2) rfl dX8_makeStep_193 ?_
  refine V.aload_n (j := 0) rfl dX8_makeStep_194 ?_
  refine V.iload_n (j := 3) rfl dX8_makeStep_195 ?_
  refine V.cV (As := [.int (nI a)]) (st := [.int (nI 1), .ref mM]) dX8_makeStep_196 sX8_141 iX8_to lX8_to rfl rfl (md_to I A a (by omega)) ⟨by decide, by decide⟩ (Nat.le_of_ble_eq_true rfl) rfl (fun r I' A' hq => ?_)
  obtain ⟨rfl, rfl, rfl⟩ := hq
  refine V.st (st' := [.int (mz_to (A m_classes) (A m_homes) a), .int (nI 1), .ref mM]) rfl ?_
  refine V.aload_n (j := 0) rfl dX8_makeStep_199 ?_
  refine V.iload (j := 4) rfl dX8_makeStep_200 ?_
  refine V.cV (As := [.int (nI b)]) (st := [.int (mz_to (A m_classes) (A m_homes) a), .int (nI 1), .ref mM]) dX8_makeStep_202 sX8_144 iX8_from lX8_from rfl rfl (md_from I A q hq2 hq b (by omega)) ⟨by decide, by decide⟩ (Nat.le_of_ble_eq_true rfl) rfl (fun r I' A' hq => ?_)
  obtain ⟨rfl, rfl, rfl⟩ := hq
  refine V.st (st' := [.int (mz_from (A m_classes) (A m_homes) (A m_fetches) (A m_into) q b), .int (mz_to (A m_classes) (A m_homes) a), .int (nI 1), .ref mM]) rfl ?_
  refine V.iconst (v := nI 0) (by decide) dX8_makeStep_205 ?_
  refine V.cV (As := [.int (nI 1), .int (mz_to (A m_classes) (A m_homes) a), .int (mz_from (A m_classes) (A m_homes) (A m_fetches) (A m_into) q b), .int (nI 0)]) (st := []) dX8_makeStep_206 sX8_133 iX8_lay lX8_lay rfl rfl (md_lay I A g n hg (by omega) _ _ _ _) ⟨by decide, by decide⟩ (Nat.le_of_ble_eq_true rfl) rfl (fun r I' A' hq => ?_)
  obtain ⟨rfl, rfl, rfl⟩ := hq
  refine V.st (st' := []) rfl ?_
  refine V.goto (tgt := 313) dX8_makeStep_209 (by decide) ?_
  refine V.fewer [0, 1] rfl ?_
  exact hk
set_option maxRecDepth 100000 in
set_option maxHeartbeats 4000000 in
theorem ml_step2_2 {G : am_G} {Fn : Array Value → State → List Frame → State → Prop} (I A : Nat → Nat → Int32) (s q : Nat) (hq2 : q ≤ 2) (hq : I mM 25 = nI q) (a : Nat) (ha : a < 24) (b : Nat) (hb : b < 24) (c : Nat) (hc : c < 24) (g : Nat → Int32) (n : Nat) (hg : A m_items = upd g 0 (nI n)) (hn : n < 395) (hk : V G MX8_makeStep (am_R 2 48 0 0) Fn 0 0 313 [(0, .ref mM), (1, .int (nI s))] [] (hp I (upA (upA A m_code (mz_lay (A m_code) n (nI 2) (mz_to (A m_classes) (A m_homes) a) (mz_from (A m_classes) (A m_homes) (A m_fetches) (A m_into) q b) (mz_from (A m_classes) (A m_homes) (A m_fetches) (A m_into) q c))) m_items (upd g 0 (nI (n + 1)))))) : V G MX8_makeStep (am_R 2 48 0 0) Fn 0 0 121 [(0, .ref mM), (1, .int (nI s)), (2, .int (nI 2)), (3, .int (nI a)), (4, .int (nI b)), (5, .int (nI c))] [] (hp I A) := by
  refine V.iload_n (j := 2) rfl dX8_makeStep_121 ?_
  refine V.tableIn (tgt := 212) dX8_makeStep_122 (by decide) (by decide) rfl (by decide) ?_
  refine V.aload_n (j := 0) rfl dX8_makeStep_212 ?_
  refine V.iload_n (j := 2) rfl dX8_makeStep_213 ?_
  refine V.aload_n (j := 0) rfl dX8_makeStep_214 ?_
  refine V.iload_n (j := 3) rfl dX8_makeStep_215 ?_
  refine V.cV (As := [.int (nI a)]) (st := [.int (nI 2), .ref mM]) dX8_makeStep_216 sX8_141 iX8_to lX8_to rfl rfl (md_to I A a (by omega)) ⟨by decide, by decide⟩ (Nat.le_of_ble_eq_true rfl) rfl (fun r I' A' hq => ?_)
  obtain ⟨rfl, rfl, rfl⟩ := hq
  refine V.st (st' := [.int (mz_to (A m_classes) (A m_homes) a), .int (nI 2), .ref mM]) rfl ?_
  refine V.aload_n (j := 0) rfl dX8_makeStep_219 ?_
  refine V.iload (j := 4) rfl dX8_makeStep_220 ?_
  refine V.cV (As := [.int (nI b)]) (st := [.int (mz_to (A m_classes) (A m_homes) a), .int (nI 2), .ref mM]) dX8_makeStep_222 sX8_144 iX8_from lX8_from rfl rfl (md_from I A q hq2 hq b (by omega)) ⟨by decide, by decide⟩ (Nat.le_of_ble_eq_true rfl) rfl (fun r I' A' hq => ?_)
  obtain ⟨rfl, rfl, rfl⟩ := hq
  refine V.st (st' := [.int (mz_from (A m_classes) (A m_homes) (A m_fetches) (A m_into) q b), .int (mz_to (A m_classes) (A m_homes) a), .int (nI 2), .ref mM]) rfl ?_
  refine V.aload_n (j := 0) rfl dX8_makeStep_225 ?_
  refine V.iload (j := 5) rfl dX8_makeStep_226 ?_
  refine V.cV (As := [.int (nI c)]) (st := [.int (mz_from (A m_classes) (A m_homes) (A m_fetches) (A m_into) q b), .int (mz_to (A m_classes) (A m_homes) a), .int (nI 2), .ref mM]) dX8_makeStep_228 sX8_144 iX8_from lX8_from rfl rfl (md_from I A q hq2 hq c (by omega)) ⟨by decide, by decide⟩ (Nat.le_of_ble_eq_true rfl) rfl (fun r I' A' hq => ?_)
  obtain ⟨rfl, rfl, rfl⟩ := hq
  refine V.st (st' := [.int (mz_from (A m_classes) (A m_homes) (A m_fetches) (A m_into) q c), .int (mz_from (A m_classes) (A m_homes) (A m_fetches) (A m_into) q b), .int (mz_to (A m_classes) (A m_homes) a), .int (nI 2), .ref mM]) rfl ?_
  refine V.cV (As := [.int (nI 2), .int (mz_to (A m_classes) (A m_homes) a), .int (mz_from (A m_classes) (A m_homes) (A m_fetches) (A m_into) q b), .int (mz_from (A m_classes) (A m_homes) (A m_fetches) (A m_into) q c)]) (st := []) dX8_makeStep_231 sX8_133 iX8_lay lX8_lay rfl rfl (md_lay I A g n hg (by omega) _ _ _ _) ⟨by decide, by decide⟩ (Nat.le_of_ble_eq_true rfl) rfl (fun r I' A' hq => ?_)
  obtain ⟨rfl, rfl, rfl⟩ := hq
  refine V.st (st' := []) rfl ?_
  refine V.goto (tgt := 313) dX8_makeStep_234 (by decide) ?_
  refine V.fewer [0, 1] rfl ?_
  exact hk
set_option maxRecDepth 100000 in
set_option maxHeartbeats 4000000 in
theorem ml_step2_3 {G : am_G} {Fn : Array Value → State → List Frame → State → Prop} (I A : Nat → Nat → Int32) (s q : Nat) (hq2 : q ≤ 2) (hq : I mM 25 = nI q) (a : Nat) (ha : a < 24) (b : Nat) (hb : b < 24) (c : Nat) (hc : c < 24) (g : Nat → Int32) (n : Nat) (hg : A m_items = upd g 0 (nI n)) (hn : n < 395) (hk : V G MX8_makeStep (am_R 2 48 0 0) Fn 0 0 313 [(0, .ref mM), (1, .int (nI s))] [] (hp I (upA (upA A m_code (mz_lay (A m_code) n (nI 3) (mz_to (A m_classes) (A m_homes) a) (mz_from (A m_classes) (A m_homes) (A m_fetches) (A m_into) q b) (mz_from (A m_classes) (A m_homes) (A m_fetches) (A m_into) q c))) m_items (upd g 0 (nI (n + 1)))))) : V G MX8_makeStep (am_R 2 48 0 0) Fn 0 0 121 [(0, .ref mM), (1, .int (nI s)), (2, .int (nI 3)), (3, .int (nI a)), (4, .int (nI b)), (5, .int (nI c))] [] (hp I A) := by
  refine V.iload_n (j := 2) rfl dX8_makeStep_121 ?_
  refine V.tableIn (tgt := 212) dX8_makeStep_122 (by decide) (by decide) rfl (by decide) ?_
  refine V.aload_n (j := 0) rfl dX8_makeStep_212 ?_
  refine V.iload_n (j := 2) rfl dX8_makeStep_213 ?_
  refine V.aload_n (j := 0) rfl dX8_makeStep_214 ?_
  refine V.iload_n (j := 3) rfl dX8_makeStep_215 ?_
  refine V.cV (As := [.int (nI a)]) (st := [.int (nI 3), .ref mM]) dX8_makeStep_216 sX8_141 iX8_to lX8_to rfl rfl (md_to I A a (by omega)) ⟨by decide, by decide⟩ (Nat.le_of_ble_eq_true rfl) rfl (fun r I' A' hq => ?_)
  obtain ⟨rfl, rfl, rfl⟩ := hq
  refine V.st (st' := [.int (mz_to (A m_classes) (A m_homes) a), .int (nI 3), .ref mM]) rfl ?_
  refine V.aload_n (j := 0) rfl dX8_makeStep_219 ?_
  refine V.iload (j := 4) rfl dX8_makeStep_220 ?_
  refine V.cV (As := [.int (nI b)]) (st := [.int (mz_to (A m_classes) (A m_homes) a), .int (nI 3), .ref mM]) dX8_makeStep_222 sX8_144 iX8_from lX8_from rfl rfl (md_from I A q hq2 hq b (by omega)) ⟨by decide, by decide⟩ (Nat.le_of_ble_eq_true rfl) rfl (fun r I' A' hq => ?_)
  obtain ⟨rfl, rfl, rfl⟩ := hq
  refine V.st (st' := [.int (mz_from (A m_classes) (A m_homes) (A m_fetches) (A m_into) q b), .int (mz_to (A m_classes) (A m_homes) a), .int (nI 3), .ref mM]) rfl ?_
  refine V.aload_n (j := 0) rfl dX8_makeStep_225 ?_
  refine V.iload (j := 5) rfl dX8_makeStep_226 ?_
  refine V.cV (As := [.int (nI c)]) (st := [.int (mz_from (A m_classes) (A m_homes) (A m_fetches) (A m_into) q b), .int (mz_to (A m_classes) (A m_homes) a), .int (nI 3), .ref mM]) dX8_makeStep_228 sX8_144 iX8_from lX8_from rfl rfl (md_from I A q hq2 hq c (by omega)) ⟨by decide, by decide⟩ (Nat.le_of_ble_eq_true rfl) rfl (fun r I' A' hq => ?_)
  obtain ⟨rfl, rfl, rfl⟩ := hq
  refine V.st (st' := [.int (mz_from (A m_classes) (A m_homes) (A m_fetches) (A m_into) q c), .int (mz_from (A m_classes) (A m_homes) (A m_fetches) (A m_into) q b), .int (mz_to (A m_classes) (A m_homes) a), .int (nI 3), .ref mM]) rfl ?_
  refine V.cV (As := [.int (nI 3), .int (mz_to (A m_classes) (A m_homes) a), .int (mz_from (A m_classes) (A m_homes) (A m_fetches) (A m_into) q b), .int (mz_from (A m_classes) (A m_homes) (A m_fetches) (A m_into) q c)]) (st := []) dX8_makeStep_231 sX8_133 iX8_lay lX8_lay rfl rfl (md_lay I A g n hg (by omega) _ _ _ _) ⟨by decide, by decide⟩ (Nat.le_of_ble_eq_true rfl) rfl (fun r I' A' hq => ?_)
  obtain ⟨rfl, rfl, rfl⟩ := hq
  refine V.st (st' := []) rfl ?_
  refine V.goto (tgt := 313) dX8_makeStep_234 (by decide) ?_
  refine V.fewer [0, 1] rfl ?_
  exact hk
set_option maxRecDepth 100000 in
set_option maxHeartbeats 4000000 in
theorem ml_step2_4 {G : am_G} {Fn : Array Value → State → List Frame → State → Prop} (I A : Nat → Nat → Int32) (s q : Nat) (hq2 : q ≤ 2) (hq : I mM 25 = nI q) (a : Nat) (ha : a < 24) (b : Nat) (hb : b < 24) (c : Nat) (hc : c < 24) (g : Nat → Int32) (n : Nat) (hg : A m_items = upd g 0 (nI n)) (hn : n < 395) (hk : V G MX8_makeStep (am_R 2 48 0 0) Fn 0 0 313 [(0, .ref mM), (1, .int (nI s))] [] (hp I (upA (upA A m_code (mz_lay (A m_code) n (nI 4) (mz_to (A m_classes) (A m_homes) a) (mz_from (A m_classes) (A m_homes) (A m_fetches) (A m_into) q b) (mz_from (A m_classes) (A m_homes) (A m_fetches) (A m_into) q c))) m_items (upd g 0 (nI (n + 1)))))) : V G MX8_makeStep (am_R 2 48 0 0) Fn 0 0 121 [(0, .ref mM), (1, .int (nI s)), (2, .int (nI 4)), (3, .int (nI a)), (4, .int (nI b)), (5, .int (nI c))] [] (hp I A) := by
  refine V.iload_n (j := 2) rfl dX8_makeStep_121 ?_
  refine V.tableIn (tgt := 212) dX8_makeStep_122 (by decide) (by decide) rfl (by decide) ?_
  refine V.aload_n (j := 0) rfl dX8_makeStep_212 ?_
  refine V.iload_n (j := 2) rfl dX8_makeStep_213 ?_
  refine V.aload_n (j := 0) rfl dX8_makeStep_214 ?_
  refine V.iload_n (j := 3) rfl dX8_makeStep_215 ?_
  refine V.cV (As := [.int (nI a)]) (st := [.int (nI 4), .ref mM]) dX8_makeStep_216 sX8_141 iX8_to lX8_to rfl rfl (md_to I A a (by omega)) ⟨by decide, by decide⟩ (Nat.le_of_ble_eq_true rfl) rfl (fun r I' A' hq => ?_)
  obtain ⟨rfl, rfl, rfl⟩ := hq
  refine V.st (st' := [.int (mz_to (A m_classes) (A m_homes) a), .int (nI 4), .ref mM]) rfl ?_
  refine V.aload_n (j := 0) rfl dX8_makeStep_219 ?_
  refine V.iload (j := 4) rfl dX8_makeStep_220 ?_
  refine V.cV (As := [.int (nI b)]) (st := [.int (mz_to (A m_classes) (A m_homes) a), .int (nI 4), .ref mM]) dX8_makeStep_222 sX8_144 iX8_from lX8_from rfl rfl (md_from I A q hq2 hq b (by omega)) ⟨by decide, by decide⟩ (Nat.le_of_ble_eq_true rfl) rfl (fun r I' A' hq => ?_)
  obtain ⟨rfl, rfl, rfl⟩ := hq
  refine V.st (st' := [.int (mz_from (A m_classes) (A m_homes) (A m_fetches) (A m_into) q b), .int (mz_to (A m_classes) (A m_homes) a), .int (nI 4), .ref mM]) rfl ?_
  refine V.aload_n (j := 0) rfl dX8_makeStep_225 ?_
  refine V.iload (j := 5) rfl dX8_makeStep_226 ?_
  refine V.cV (As := [.int (nI c)]) (st := [.int (mz_from (A m_classes) (A m_homes) (A m_fetches) (A m_into) q b), .int (mz_to (A m_classes) (A m_homes) a), .int (nI 4), .ref mM]) dX8_makeStep_228 sX8_144 iX8_from lX8_from rfl rfl (md_from I A q hq2 hq c (by omega)) ⟨by decide, by decide⟩ (Nat.le_of_ble_eq_true rfl) rfl (fun r I' A' hq => ?_)
  obtain ⟨rfl, rfl, rfl⟩ := hq
  refine V.st (st' := [.int (mz_from (A m_classes) (A m_homes) (A m_fetches) (A m_into) q c), .int (mz_from (A m_classes) (A m_homes) (A m_fetches) (A m_into) q b), .int (mz_to (A m_classes) (A m_homes) a), .int (nI 4), .ref mM]) rfl ?_
  refine V.cV (As := [.int (nI 4), .int (mz_to (A m_classes) (A m_homes) a), .int (mz_from (A m_classes) (A m_homes) (A m_fetches) (A m_into) q b), .int (mz_from (A m_classes) (A m_homes) (A m_fetches) (A m_into) q c)]) (st := []) dX8_makeStep_231 sX8_133 iX8_lay lX8_lay rfl rfl (md_lay I A g n hg (by omega) _ _ _ _) ⟨by decide, by decide⟩ (Nat.le_of_ble_eq_true rfl) rfl (fun r I' A' hq => ?_)
  obtain ⟨rfl, rfl, rfl⟩ := hq
  refine V.st (st' := []) rfl ?_
  refine V.goto (tgt := 313) dX8_makeStep_234 (by decide) ?_
  refine V.fewer [0, 1] rfl ?_
  exact hk
set_option maxRecDepth 100000 in
set_option maxHeartbeats 4000000 in
theorem ml_step2_5 {G : am_G} {Fn : Array Value → State → List Frame → State → Prop} (I A : Nat → Nat → Int32) (s q : Nat) (hq2 : q ≤ 2) (hq : I mM 25 = nI q) (a : Nat) (ha : a < 24) (b : Nat) (hb : b < 24) (xc : Int32) (g : Nat → Int32) (n : Nat) (hg : A m_items = upd g 0 (nI n)) (hn : n < 395) (hk : V G MX8_makeStep (am_R 2 48 0 0) Fn 0 0 313 [(0, .ref mM), (1, .int (nI s))] [] (hp I (upA (upA A m_code (mz_lay (A m_code) n (nI 5) (mz_to (A m_classes) (A m_homes) a) (mz_from (A m_classes) (A m_homes) (A m_fetches) (A m_into) q b) (xc))) m_items (upd g 0 (nI (n + 1)))))) : V G MX8_makeStep (am_R 2 48 0 0) Fn 0 0 121 [(0, .ref mM), (1, .int (nI s)), (2, .int (nI 5)), (3, .int (nI a)), (4, .int (nI b)), (5, .int xc)] [] (hp I A) := by
  refine V.iload_n (j := 2) rfl dX8_makeStep_121 ?_
  refine V.tableIn (tgt := 237) dX8_makeStep_122 (by decide) (by decide) rfl (by decide) ?_
  refine V.aload_n (j := 0) rfl dX8_makeStep_237 ?_
  refine V.iload_n (j := 2) rfl dX8_makeStep_238 ?_
  refine V.aload_n (j := 0) rfl dX8_makeStep_239 ?_
  refine V.iload_n (j := 3) rfl dX8_makeStep_240 ?_
  refine V.cV (As := [.int (nI a)]) (st := [.int (nI 5), .ref mM]) dX8_makeStep_241 sX8_141 iX8_to lX8_to rfl rfl (md_to I A a (by omega)) ⟨by decide, by decide⟩ (Nat.le_of_ble_eq_true rfl) rfl (fun r I' A' hq => ?_)
  obtain ⟨rfl, rfl, rfl⟩ := hq
  refine V.st (st' := [.int (mz_to (A m_classes) (A m_homes) a), .int (nI 5), .ref mM]) rfl ?_
  refine V.aload_n (j := 0) rfl dX8_makeStep_244 ?_
  refine V.iload (j := 4) rfl dX8_makeStep_245 ?_
  refine V.cV (As := [.int (nI b)]) (st := [.int (mz_to (A m_classes) (A m_homes) a), .int (nI 5), .ref mM]) dX8_makeStep_247 sX8_144 iX8_from lX8_from rfl rfl (md_from I A q hq2 hq b (by omega)) ⟨by decide, by decide⟩ (Nat.le_of_ble_eq_true rfl) rfl (fun r I' A' hq => ?_)
  obtain ⟨rfl, rfl, rfl⟩ := hq
  refine V.st (st' := [.int (mz_from (A m_classes) (A m_homes) (A m_fetches) (A m_into) q b), .int (mz_to (A m_classes) (A m_homes) a), .int (nI 5), .ref mM]) rfl ?_
  refine V.iload (j := 5) rfl dX8_makeStep_250 ?_
  refine V.cV (As := [.int (nI 5), .int (mz_to (A m_classes) (A m_homes) a), .int (mz_from (A m_classes) (A m_homes) (A m_fetches) (A m_into) q b), .int xc]) (st := []) dX8_makeStep_252 sX8_133 iX8_lay lX8_lay rfl rfl (md_lay I A g n hg (by omega) _ _ _ _) ⟨by decide, by decide⟩ (Nat.le_of_ble_eq_true rfl) rfl (fun r I' A' hq => ?_)
  obtain ⟨rfl, rfl, rfl⟩ := hq
  refine V.st (st' := []) rfl ?_
  refine V.goto (tgt := 313) dX8_makeStep_255 (by decide) ?_
  refine V.fewer [0, 1] rfl ?_
  exact hk
set_option maxRecDepth 100000 in
set_option maxHeartbeats 4000000 in
theorem ml_step2_6 {G : am_G} {Fn : Array Value → State → List Frame → State → Prop} (I A : Nat → Nat → Int32) (s q : Nat) (hq2 : q ≤ 2) (hq : I mM 25 = nI q) (a : Nat) (ha : a < 24) (b : Nat) (hb : b < 24) (xc : Int32) (g : Nat → Int32) (n : Nat) (hg : A m_items = upd g 0 (nI n)) (hn : n < 395) (hk : V G MX8_makeStep (am_R 2 48 0 0) Fn 0 0 313 [(0, .ref mM), (1, .int (nI s))] [] (hp I (upA (upA A m_code (mz_lay (A m_code) n (nI 6) (mz_from (A m_classes) (A m_homes) (A m_fetches) (A m_into) q a) (mz_from (A m_classes) (A m_homes) (A m_fetches) (A m_into) q b) (xc))) m_items (upd g 0 (nI (n + 1)))))) : V G MX8_makeStep (am_R 2 48 0 0) Fn 0 0 121 [(0, .ref mM), (1, .int (nI s)), (2, .int (nI 6)), (3, .int (nI a)), (4, .int (nI b)), (5, .int xc)] [] (hp I A) := by
  refine V.iload_n (j := 2) rfl dX8_makeStep_121 ?_
  refine V.tableIn (tgt := 258) dX8_makeStep_122 (by decide) (by decide) rfl (by decide) ?_
  refine V.aload_n (j := 0) rfl dX8_makeStep_258 ?_
  refine V.iload_n (j := 2) rfl dX8_makeStep_259 ?_
  refine V.aload_n (j := 0) rfl dX8_makeStep_260 ?_
  refine V.iload_n (j := 3) rfl dX8_makeStep_261 ?_
  refine V.cV (As := [.int (nI a)]) (st := [.int (nI 6), .ref mM]) dX8_makeStep_262 sX8_144 iX8_from lX8_from rfl rfl (md_from I A q hq2 hq a (by omega)) ⟨by decide, by decide⟩ (Nat.le_of_ble_eq_true rfl) rfl (fun r I' A' hq => ?_)
  obtain ⟨rfl, rfl, rfl⟩ := hq
  refine V.st (st' := [.int (mz_from (A m_classes) (A m_homes) (A m_fetches) (A m_into) q a), .int (nI 6), .ref mM]) rfl ?_
  refine V.aload_n (j := 0) rfl dX8_makeStep_265 ?_
  refine V.iload (j := 4) rfl dX8_makeStep_266 ?_
  refine V.cV (As := [.int (nI b)]) (st := [.int (mz_from (A m_classes) (A m_homes) (A m_fetches) (A m_into) q a), .int (nI 6), .ref mM]) dX8_makeStep_268 sX8_144 iX8_from lX8_from rfl rfl (md_from I A q hq2 hq b (by omega)) ⟨by decide, by decide⟩ (Nat.le_of_ble_eq_true rfl) rfl (fun r I' A' hq => ?_)
  obtain ⟨rfl, rfl, rfl⟩ := hq
  refine V.st (st' := [.int (mz_from (A m_classes) (A m_homes) (A m_fetches) (A m_into) q b), .int (mz_from (A m_classes) (A m_homes) (A m_fetches) (A m_into) q a), .int (nI 6), .ref mM]) rfl ?_
  refine V.iload (j := 5) rfl dX8_makeStep_271 ?_
  refine V.cV (As := [.int (nI 6), .int (mz_from (A m_classes) (A m_homes) (A m_fetches) (A m_into) q a), .int (mz_from (A m_classes) (A m_homes) (A m_fetches) (A m_into) q b), .int xc]) (st := []) dX8_makeStep_273 sX8_133 iX8_lay lX8_lay rfl rfl (md_lay I A g n hg (by omega) _ _ _ _) ⟨by decide, by decide⟩ (Nat.le_of_ble_eq_true rfl) rfl (fun r I' A' hq => ?_)
  obtain ⟨rfl, rfl, rfl⟩ := hq
  refine V.st (st' := []) rfl ?_
  refine V.goto (tgt := 313) dX8_makeStep_276 (by decide) ?_
  refine V.fewer [0, 1] rfl ?_
  exact hk
set_option maxRecDepth 100000 in
set_option maxHeartbeats 4000000 in
theorem ml_step2_7 {G : am_G} {Fn : Array Value → State → List Frame → State → Prop} (I A : Nat → Nat → Int32) (s q : Nat) (hq2 : q ≤ 2) (hq : I mM 25 = nI q) (a : Nat) (ha : a < 24) (b : Nat) (hb : b < 24) (xc : Int32) (g : Nat → Int32) (n : Nat) (hg : A m_items = upd g 0 (nI n)) (hn : n < 395) (hk : V G MX8_makeStep (am_R 2 48 0 0) Fn 0 0 313 [(0, .ref mM), (1, .int (nI s))] [] (hp I (upA (upA A m_code (mz_lay (A m_code) n (nI 7) (mz_from (A m_classes) (A m_homes) (A m_fetches) (A m_into) q a) (mz_from (A m_classes) (A m_homes) (A m_fetches) (A m_into) q b) (xc))) m_items (upd g 0 (nI (n + 1)))))) : V G MX8_makeStep (am_R 2 48 0 0) Fn 0 0 121 [(0, .ref mM), (1, .int (nI s)), (2, .int (nI 7)), (3, .int (nI a)), (4, .int (nI b)), (5, .int xc)] [] (hp I A) := by
  refine V.iload_n (j := 2) rfl dX8_makeStep_121 ?_
  refine V.tableIn (tgt := 258) dX8_makeStep_122 (by decide) (by decide) rfl (by decide) ?_
  refine V.aload_n (j := 0) rfl dX8_makeStep_258 ?_
  refine V.iload_n (j := 2) rfl dX8_makeStep_259 ?_
  refine V.aload_n (j := 0) rfl dX8_makeStep_260 ?_
  refine V.iload_n (j := 3) rfl dX8_makeStep_261 ?_
  refine V.cV (As := [.int (nI a)]) (st := [.int (nI 7), .ref mM]) dX8_makeStep_262 sX8_144 iX8_from lX8_from rfl rfl (md_from I A q hq2 hq a (by omega)) ⟨by decide, by decide⟩ (Nat.le_of_ble_eq_true rfl) rfl (fun r I' A' hq => ?_)
  obtain ⟨rfl, rfl, rfl⟩ := hq
  refine V.st (st' := [.int (mz_from (A m_classes) (A m_homes) (A m_fetches) (A m_into) q a), .int (nI 7), .ref mM]) rfl ?_
  refine V.aload_n (j := 0) rfl dX8_makeStep_265 ?_
  refine V.iload (j := 4) rfl dX8_makeStep_266 ?_
  refine V.cV (As := [.int (nI b)]) (st := [.int (mz_from (A m_classes) (A m_homes) (A m_fetches) (A m_into) q a), .int (nI 7), .ref mM]) dX8_makeStep_268 sX8_144 iX8_from lX8_from rfl rfl (md_from I A q hq2 hq b (by omega)) ⟨by decide, by decide⟩ (Nat.le_of_ble_eq_true rfl) rfl (fun r I' A' hq => ?_)
  obtain ⟨rfl, rfl, rfl⟩ := hq
  refine V.st (st' := [.int (mz_from (A m_classes) (A m_homes) (A m_fetches) (A m_into) q b), .int (mz_from (A m_classes) (A m_homes) (A m_fetches) (A m_into) q a), .int (nI 7), .ref mM]) rfl ?_
  refine V.iload (j := 5) rfl dX8_makeStep_271 ?_
  refine V.cV (As := [.int (nI 7), .int (mz_from (A m_classes) (A m_homes) (A m_fetches) (A m_into) q a), .int (mz_from (A m_classes) (A m_homes) (A m_fetches) (A m_into) q b), .int xc]) (st := []) dX8_makeStep_273 sX8_133 iX8_lay lX8_lay rfl rfl (md_lay I A g n hg (by omega) _ _ _ _) ⟨by decide, by decide⟩ (Nat.le_of_ble_eq_true rfl) rfl (fun r I' A' hq => ?_)
  obtain ⟨rfl, rfl, rfl⟩ := hq
  refine V.st (st' := []) rfl ?_
  refine V.goto (tgt := 313) dX8_makeStep_276 (by decide) ?_
  refine V.fewer [0, 1] rfl ?_
  exact hk
set_option maxRecDepth 100000 in
set_option maxHeartbeats 4000000 in
theorem ml_step2_8 {G : am_G} {Fn : Array Value → State → List Frame → State → Prop} (I A : Nat → Nat → Int32) (s q : Nat) (hq2 : q ≤ 2) (hq : I mM 25 = nI q) (xa : Int32) (xb : Int32) (xc : Int32) (g : Nat → Int32) (n : Nat) (hg : A m_items = upd g 0 (nI n)) (hn : n < 395) (hk : V G MX8_makeStep (am_R 2 48 0 0) Fn 0 0 313 [(0, .ref mM), (1, .int (nI s))] [] (hp I (upA (upA A m_code (mz_lay (A m_code) n (nI 8) (xa) (nI 0) (nI 0))) m_items (upd g 0 (nI (n + 1)))))) : V G MX8_makeStep (am_R 2 48 0 0) Fn 0 0 121 [(0, .ref mM), (1, .int (nI s)), (2, .int (nI 8)), (3, .int xa), (4, .int xb), (5, .int xc)] [] (hp I A) := by
  refine V.iload_n (j := 2) rfl dX8_makeStep_121 ?_
  refine V.tableIn (tgt := 279) dX8_makeStep_122 (by decide) (by decide) rfl (by decide) ?_
  refine V.aload_n (j := 0) rfl dX8_makeStep_279 ?_
  refine V.iload_n (j := 2) rfl dX8_makeStep_280 ?_
  refine V.iload_n (j := 3) rfl dX8_makeStep_281 ?_
  refine V.iconst (v := nI 0) (by decide) dX8_makeStep_282 ?_
  refine V.iconst (v := nI 0) (by decide) dX8_makeStep_283 ?_
  refine V.cV (As := [.int (nI 8), .int xa, .int (nI 0), .int (nI 0)]) (st := []) dX8_makeStep_284 sX8_133 iX8_lay lX8_lay rfl rfl (md_lay I A g n hg (by omega) _ _ _ _) ⟨by decide, by decide⟩ (Nat.le_of_ble_eq_true rfl) rfl (fun r I' A' hq => ?_)
  obtain ⟨rfl, rfl, rfl⟩ := hq
  refine V.st (st' := []) rfl ?_
  refine V.goto (tgt := 313) dX8_makeStep_287 (by decide) ?_
  refine V.fewer [0, 1] rfl ?_
  exact hk
set_option maxRecDepth 100000 in
set_option maxHeartbeats 4000000 in
theorem ml_step2_9 {G : am_G} {Fn : Array Value → State → List Frame → State → Prop} (I A : Nat → Nat → Int32) (s q : Nat) (hq2 : q ≤ 2) (hq : I mM 25 = nI q) (a : Nat) (ha : a < 24) (xb : Int32) (xc : Int32) (g : Nat → Int32) (n : Nat) (hg : A m_items = upd g 0 (nI n)) (hn : n < 395) (hk : V G MX8_makeStep (am_R 2 48 0 0) Fn 0 0 313 [(0, .ref mM), (1, .int (nI s))] [] (hp I (upA (upA A m_code (mz_lay (A m_code) n (nI 9) (mz_from (A m_classes) (A m_homes) (A m_fetches) (A m_into) q a) (nI 0) (nI 0))) m_items (upd g 0 (nI (n + 1)))))) : V G MX8_makeStep (am_R 2 48 0 0) Fn 0 0 121 [(0, .ref mM), (1, .int (nI s)), (2, .int (nI 9)), (3, .int (nI a)), (4, .int xb), (5, .int xc)] [] (hp I A) := by
  refine V.iload_n (j := 2) rfl dX8_makeStep_121 ?_
  refine V.tableIn (tgt := 290) dX8_makeStep_122 (by decide) (by decide) rfl (by decide) ?_
  refine V.aload_n (j := 0) rfl dX8_makeStep_290 ?_
  refine V.iload_n (j := 2) rfl dX8_makeStep_291 ?_
  refine V.aload_n (j := 0) rfl dX8_makeStep_292 ?_
  refine V.iload_n (j := 3) rfl dX8_makeStep_293 ?_
  refine V.cV (As := [.int (nI a)]) (st := [.int (nI 9), .ref mM]) dX8_makeStep_294 sX8_144 iX8_from lX8_from rfl rfl (md_from I A q hq2 hq a (by omega)) ⟨by decide, by decide⟩ (Nat.le_of_ble_eq_true rfl) rfl (fun r I' A' hq => ?_)
  obtain ⟨rfl, rfl, rfl⟩ := hq
  refine V.st (st' := [.int (mz_from (A m_classes) (A m_homes) (A m_fetches) (A m_into) q a), .int (nI 9), .ref mM]) rfl ?_
  refine V.iconst (v := nI 0) (by decide) dX8_makeStep_297 ?_
  refine V.iconst (v := nI 0) (by decide) dX8_makeStep_298 ?_
  refine V.cV (As := [.int (nI 9), .int (mz_from (A m_classes) (A m_homes) (A m_fetches) (A m_into) q a), .int (nI 0), .int (nI 0)]) (st := []) dX8_makeStep_299 sX8_133 iX8_lay lX8_lay rfl rfl (md_lay I A g n hg (by omega) _ _ _ _) ⟨by decide, by decide⟩ (Nat.le_of_ble_eq_true rfl) rfl (fun r I' A' hq => ?_)
  obtain ⟨rfl, rfl, rfl⟩ := hq
  refine V.st (st' := []) rfl ?_
  refine V.goto (tgt := 313) dX8_makeStep_302 (by decide) ?_
  refine V.fewer [0, 1] rfl ?_
  exact hk
set_option maxRecDepth 100000 in
set_option maxHeartbeats 4000000 in
theorem ml_step2_10 {G : am_G} {Fn : Array Value → State → List Frame → State → Prop} (I A : Nat → Nat → Int32) (s q : Nat) (hq2 : q ≤ 2) (hq : I mM 25 = nI q) (xa : Int32) (xb : Int32) (xc : Int32) (g : Nat → Int32) (n : Nat) (hg : A m_items = upd g 0 (nI n)) (hn : n < 395) (hk : V G MX8_makeStep (am_R 2 48 0 0) Fn 0 0 313 [(0, .ref mM), (1, .int (nI s))] [] (hp I (upA (upA A m_code (mz_lay (A m_code) n (nI 10) (nI 0) (nI 0) (nI 0))) m_items (upd g 0 (nI (n + 1)))))) : V G MX8_makeStep (am_R 2 48 0 0) Fn 0 0 121 [(0, .ref mM), (1, .int (nI s)), (2, .int (nI 10)), (3, .int xa), (4, .int xb), (5, .int xc)] [] (hp I A) := by
  refine V.iload_n (j := 2) rfl dX8_makeStep_121 ?_
  refine V.tableOut (tgt := 305) dX8_makeStep_122 (by decide) (by decide) ?_
  refine V.aload_n (j := 0) rfl dX8_makeStep_305 ?_
  refine V.iload_n (j := 2) rfl dX8_makeStep_306 ?_
  refine V.iconst (v := nI 0) (by decide) dX8_makeStep_307 ?_
  refine V.iconst (v := nI 0) (by decide) dX8_makeStep_308 ?_
  refine V.iconst (v := nI 0) (by decide) dX8_makeStep_309 ?_
  refine V.cV (As := [.int (nI 10), .int (nI 0), .int (nI 0), .int (nI 0)]) (st := []) dX8_makeStep_310 sX8_133 iX8_lay lX8_lay rfl rfl (md_lay I A g n hg (by omega) _ _ _ _) ⟨by decide, by decide⟩ (Nat.le_of_ble_eq_true rfl) rfl (fun r I' A' hq => ?_)
  obtain ⟨rfl, rfl, rfl⟩ := hq
  refine V.st (st' := []) rfl ?_
  refine V.fewer [0, 1] rfl ?_
  exact hk
/-- a step's KEEP, if its value has a slot -/
def mz_kp (cl hm : Nat → Int32) (v : Int32) (c : Nat → Int32) (n : Nat) : (Nat → Int32) × Nat := if v = (-1) then (c, n) else if hm v.toNatClampNeg < nI 100 then (c, n) else (mz_lay c n (nI 12) (mz_to cl hm v.toNatClampNeg) (hm v.toNatClampNeg - nI 100) (nI 0), n + 1)
theorem mz_kp_m {cl hm c : Nat → Int32} {n : Nat} : mz_kp cl hm (-1) c n = (c, n) := if_pos rfl
theorem mz_kp_r {cl hm c : Nat → Int32} {n v : Nat} (hv : v < 2 ^ 31) (h : hm v < nI 100) : mz_kp cl hm (nI v) c n = (c, n) := by
  unfold mz_kp
  rw [if_neg (nI_nm1 hv), nI_clamp hv, if_pos h]
theorem mz_kp_s {cl hm c : Nat → Int32} {n v : Nat} (hv : v < 2 ^ 31) (h : ¬ hm v < nI 100) : mz_kp cl hm (nI v) c n = (mz_lay c n (nI 12) (mz_to cl hm v) (hm v - nI 100) (nI 0), n + 1) := by
  unfold mz_kp
  rw [if_neg (nI_nm1 hv), nI_clamp hv, if_neg h]
set_option maxRecDepth 100000 in
set_option maxHeartbeats 4000000 in
theorem ml_step3 {G : am_G} {Fn : Array Value → State → List Frame → State → Prop} (I A : Nat → Nat → Int32) (nv : Nat) (hnv : nv ≤ 24) (s : Nat) (hs : s < 60) (hA : mz_anew (A m_ops) (A m_first) s = (-1) ∨ ∃ a, a < nv ∧ mz_anew (A m_ops) (A m_first) s = nI a) (g : Nat → Int32) (n : Nat) (hg : A m_items = upd g 0 (nI n)) (hn : n < 395) (hk : V G MX8_makeStep (am_R 2 48 0 0) Fn 0 0 361 [(0, .ref mM)] [] (hp I (upA (upA A m_code (mz_kp (A m_classes) (A m_homes) (mz_anew (A m_ops) (A m_first) s) (A m_code) n).1) m_items (upd g 0 (nI (mz_kp (A m_classes) (A m_homes) (mz_anew (A m_ops) (A m_first) s) (A m_code) n).2))))) : V G MX8_makeStep (am_R 2 48 0 0) Fn 0 0 313 [(0, .ref mM), (1, .int (nI s))] [] (hp I A) := by
  refine V.aload_n (j := 0) rfl dX8_makeStep_313 ?_
  refine V.iload_n (j := 1) rfl dX8_makeStep_314 ?_
  refine V.cV (As := [.int (nI s)]) (st := []) dX8_makeStep_315 sX8_106 iX8_anew lX8_anew rfl rfl (md_anew I A s (by omega)) ⟨by decide, by decide⟩ (Nat.le_of_ble_eq_true rfl) rfl (fun r I' A' hq => ?_)
  obtain ⟨rfl, rfl, rfl⟩ := hq
  refine V.st (st' := [.int (mz_anew (A m_ops) (A m_first) s)]) rfl ?_
  refine V.istore (ls' := [(0, .ref mM), (1, .int (nI s)), (6, .int (mz_anew (A m_ops) (A m_first) s))]) dX8_makeStep_318 (by decide) rfl ?_
  rcases hA with e0 | ⟨v, hv, e0⟩
  · refine V.lse (ls' := [(0, .ref mM), (1, .int (nI s)), (6, .int ((-1)))]) (by rw [e0]) ?_
    refine V.iload (j := 2) rfl dX8_makeStep_320 ?_
    refine V.iconst (v := (-1)) (by decide) dX8_makeStep_322 ?_
    refine V.icmp_eq (tgt := 361) dX8_makeStep_323 (by decide) (fun _ => ?_) (fun z => absurd rfl z)
    refine V.fewer [0] rfl ?_
    have hk2 := hk
    rw [e0, mz_kp_m] at hk2
    dsimp only at hk2
    rw [upA_i, ← hg, upA_i] at hk2
    exact hk2
  · refine V.lse (ls' := [(0, .ref mM), (1, .int (nI s)), (6, .int (nI v))]) (by rw [e0]) ?_
    refine V.iload (j := 2) rfl dX8_makeStep_320 ?_
    refine V.iconst (v := (-1)) (by decide) dX8_makeStep_322 ?_
    refine V.icmp_eq (tgt := 361) dX8_makeStep_323 (by decide) (fun z => absurd z (nI_nm1 (by omega))) (fun _ => ?_)
    refine V.aload_n (j := 0) rfl dX8_makeStep_326 ?_
    refine V.getr (q := m_homes) dX8_makeStep_327 fX8_46 rfl rfl ?_
    refine V.iload (j := 2) rfl dX8_makeStep_330 ?_
    refine V.lda (v := A m_homes v) dX8_makeStep_332 rfl (by omega) (by decide) rfl ?_
    refine V.bipush (v := nI 100) (by decide) dX8_makeStep_333 ?_
    refine V.icmp_lt (tgt := 361) dX8_makeStep_335 (by decide) (fun c3 => ?_) (fun c3 => ?_)
    · refine V.fewer [0] rfl ?_
      have hk2 := hk
      rw [e0, mz_kp_r (show v < 2 ^ 31 by omega) c3] at hk2
      dsimp only at hk2
      rw [upA_i, ← hg, upA_i] at hk2
      exact hk2
    · refine V.aload_n (j := 0) rfl dX8_makeStep_338 ?_
      refine V.bipush (v := nI 12) (by decide) dX8_makeStep_339 ?_
      refine V.aload_n (j := 0) rfl dX8_makeStep_341 ?_
      refine V.iload (j := 2) rfl dX8_makeStep_342 ?_
      refine V.cV (As := [.int (nI v)]) (st := [.int (nI 12), .ref mM]) dX8_makeStep_344 sX8_141 iX8_to lX8_to rfl rfl (md_to I A v (by omega)) ⟨by decide, by decide⟩ (Nat.le_of_ble_eq_true rfl) rfl (fun r I' A' hq => ?_)
      obtain ⟨rfl, rfl, rfl⟩ := hq
      refine V.st (st' := [.int (mz_to (A m_classes) (A m_homes) v), .int (nI 12), .ref mM]) rfl ?_
      refine V.aload_n (j := 0) rfl dX8_makeStep_347 ?_
      refine V.getr (q := m_homes) dX8_makeStep_348 fX8_46 rfl rfl ?_
      refine V.iload (j := 2) rfl dX8_makeStep_351 ?_
      refine V.lda (v := A m_homes v) dX8_makeStep_353 rfl (by omega) (by decide) rfl ?_
      refine V.bipush (v := nI 100) (by decide) dX8_makeStep_354 ?_
      refine V.isub dX8_makeStep_356 ?_
      refine V.iconst (v := nI 0) (by decide) dX8_makeStep_357 ?_
      refine V.cV (As := [.int (nI 12), .int (mz_to (A m_classes) (A m_homes) v), .int ((A m_homes v) - (nI 100)), .int (nI 0)]) (st := []) dX8_makeStep_358 sX8_133 iX8_lay lX8_lay rfl rfl (md_lay I A g n hg (by omega) _ _ _ _) ⟨by decide, by decide⟩ (Nat.le_of_ble_eq_true rfl) rfl (fun r I' A' hq => ?_)
      obtain ⟨rfl, rfl, rfl⟩ := hq
      refine V.st (st' := []) rfl ?_
      refine V.fewer [0] rfl ?_
      have hk2 := hk
      rw [e0, mz_kp_s (show v < 2 ^ 31 by omega) c3] at hk2
      exact hk2
end
section
/-- a step as it was let in -/
def mz_sw (nv : Nat) (o a b c : Int32) : Prop := ∃ k, k ≤ 10 ∧ o = nI k ∧ (k ≤ 7 ∨ k = 9 → ∃ x, x < nv ∧ a = nI x) ∧ (1 ≤ k ∧ k ≤ 7 → ∃ x, x < nv ∧ b = nI x) ∧ (2 ≤ k ∧ k ≤ 4 → ∃ x, x < nv ∧ c = nI x) ∧ (k = 5 ∨ k = 6 → ∃ x, x < 64 ∧ c = nI x) ∧ (k = 7 → ∃ x, x ≤ 60 ∧ c = nI x) ∧ (k = 8 → ∃ x, x ≤ 60 ∧ a = nI x)
theorem mz_sw_anew {nv s : Nat} {op fa fb fc : Nat → Int32} (h : mz_sw nv (op s) (fa s) (fb s) (fc s)) : mz_anew op fa s = (-1) ∨ ∃ a, a < nv ∧ mz_anew op fa s = nI a := by
  obtain ⟨k, h1, h2, h3, -⟩ := h
  unfold mz_anew
  rw [h2]
  by_cases h : 6 ≤ k
  · rw [if_pos (nI_le h (by omega))]; exact Or.inl rfl
  · obtain ⟨x, h4, h5⟩ := h3 (Or.inl (by omega))
    rw [if_neg (nI_ge (by omega) (by omega)), h5]
    exact Or.inr ⟨x, h4, rfl⟩
theorem mz_sw_tak0 {nv s : Nat} {op fa fb fc : Nat → Int32} (h : mz_sw nv (op s) (fa s) (fb s) (fc s)) : mz_tak0 op fa fb s = (-1) ∨ ∃ a, a < nv ∧ mz_tak0 op fa fb s = nI a := by
  obtain ⟨k, h1, h2, h3, h4, -⟩ := h
  unfold mz_tak0
  rw [h2]
  split
  · rename_i q
    obtain ⟨x, h5, h6⟩ := h4 (by rcases q with q | q <;> (rw [nI_eq (by omega) (by omega)] at q; omega))
    exact Or.inr ⟨x, h5, h6⟩
  · split
    · rename_i q
      rw [nI_leI (by omega) (by omega), nI_leI (by omega) (by omega)] at q
      obtain ⟨x, h5, h6⟩ := h4 (by omega)
      exact Or.inr ⟨x, h5, h6⟩
    · split
      · rename_i q
        obtain ⟨x, h5, h6⟩ := h3 (by rcases q with q | q <;> (rw [nI_eq (by omega) (by omega)] at q; omega))
        exact Or.inr ⟨x, h5, h6⟩
      · split
        · rename_i q
          rw [nI_eq (by omega) (by omega)] at q
          obtain ⟨x, h5, h6⟩ := h3 (by omega)
          exact Or.inr ⟨x, h5, h6⟩
        · exact Or.inl rfl
theorem mz_sw_tak1 {nv s : Nat} {op fa fb fc : Nat → Int32} (h : mz_sw nv (op s) (fa s) (fb s) (fc s)) : mz_tak1 op fb fc s = (-1) ∨ ∃ a, a < nv ∧ mz_tak1 op fb fc s = nI a := by
  obtain ⟨k, h1, h2, h3, h4, h5, -⟩ := h
  unfold mz_tak1
  rw [h2]
  split
  · exact Or.inl rfl
  · split
    · rename_i q
      rw [nI_leI (by omega) (by omega), nI_leI (by omega) (by omega)] at q
      obtain ⟨x, h6, h7⟩ := h5 (by omega)
      exact Or.inr ⟨x, h6, h7⟩
    · split
      · rename_i q
        obtain ⟨x, h6, h7⟩ := h4 (by rcases q with q | q <;> (rw [nI_eq (by omega) (by omega)] at q; omega))
        exact Or.inr ⟨x, h6, h7⟩
      · exact Or.inl rfl
theorem mz_ft_le {cl hm : Nat → Int32} {v : Nat} {F : mz_FS} : (mz_ft cl hm v F).1 ≤ F.1 + 1 ∧ (mz_ft cl hm v F).2.2.2.2 ≤ F.2.2.2.2 + 1 := by
  unfold mz_ft
  split
  · exact ⟨by omega, by omega⟩
  · exact ⟨Nat.le_refl _, Nat.le_refl _⟩
theorem mz_f1_le {cl hm : Nat → Int32} {v : Int32} {F : mz_FS} : (mz_f1 cl hm v F).1 ≤ F.1 + 1 ∧ (mz_f1 cl hm v F).2.2.2.2 ≤ F.2.2.2.2 + 1 := by
  unfold mz_f1
  split
  · exact ⟨by omega, by omega⟩
  · split
    · exact ⟨by omega, by omega⟩
    · exact mz_ft_le
theorem mz_f2_le {op fa fb fc cl hm : Nat → Int32} {s : Nat} {F : mz_FS} : (mz_f2 op fa fb fc cl hm s F).1 ≤ F.1 + 2 ∧ (mz_f2 op fa fb fc cl hm s F).2.2.2.2 ≤ F.2.2.2.2 + 2 := by
  unfold mz_f2
  have h1 := mz_f1_le (cl := cl) (hm := hm) (v := mz_tak1 op fb fc s) (F := mz_f1 cl hm (mz_tak0 op fa fb s) F)
  have h2 := mz_f1_le (cl := cl) (hm := hm) (v := mz_tak0 op fa fb s) (F := F)
  omega
theorem mz_FA_2 {A : Nat → Nat → Int32} {g c : Nat → Int32} {F : mz_FS} {n : Nat} : upA (upA (mz_FA A g F) m_code c) m_items (upd g 0 (nI n)) = mz_FA A g (F.1, F.2.1, F.2.2.1, c, n) := by
  unfold mz_FA
  rw [upA_r2 (a := m_code) (b := m_items) (by decide), upA_u]
/-- x, y, z of a step's own item -/
def mz_xyz (cl hm fe it : Nat → Int32) (q k : Nat) (a b c : Int32) : Int32 × Int32 × Int32 := match k with
  | 0 => (mz_to cl hm a.toNatClampNeg, b, nI 0)
  | 1 => (mz_to cl hm a.toNatClampNeg, mz_from cl hm fe it q b.toNatClampNeg, nI 0)
  | 2 => (mz_to cl hm a.toNatClampNeg, mz_from cl hm fe it q b.toNatClampNeg, mz_from cl hm fe it q c.toNatClampNeg)
  | 3 => (mz_to cl hm a.toNatClampNeg, mz_from cl hm fe it q b.toNatClampNeg, mz_from cl hm fe it q c.toNatClampNeg)
  | 4 => (mz_to cl hm a.toNatClampNeg, mz_from cl hm fe it q b.toNatClampNeg, mz_from cl hm fe it q c.toNatClampNeg)
  | 5 => (mz_to cl hm a.toNatClampNeg, mz_from cl hm fe it q b.toNatClampNeg, c)
  | 6 => (mz_from cl hm fe it q a.toNatClampNeg, mz_from cl hm fe it q b.toNatClampNeg, c)
  | 7 => (mz_from cl hm fe it q a.toNatClampNeg, mz_from cl hm fe it q b.toNatClampNeg, c)
  | 8 => (a, nI 0, nI 0)
  | 9 => (mz_from cl hm fe it q a.toNatClampNeg, nI 0, nI 0)
  | _ => (nI 0, nI 0, nI 0)
def mz_ndl (op fa fb cl hm : Nat → Int32) (s : Nat) : Prop := op s = nI 1 ∧ cl (fa s).toNatClampNeg = cl (fb s).toNatClampNeg ∧ hm (fa s).toNatClampNeg = hm (fb s).toNatClampNeg
/-- the items of a step that makes some: the code and how many items there are then -/
def mz_mkN (op fa fb fc cl hm : Nat → Int32) (s : Nat) (F : mz_FS) : (Nat → Int32) × Nat := mz_kp cl hm (mz_anew op fa s) (mz_lay F.2.2.2.1 F.2.2.2.2 (op s) (mz_xyz cl hm F.2.1 F.2.2.1 F.1 (op s).toNatClampNeg (fa s) (fb s) (fc s)).1 (mz_xyz cl hm F.2.1 F.2.2.1 F.1 (op s).toNatClampNeg (fa s) (fb s) (fc s)).2.1 (mz_xyz cl hm F.2.1 F.2.2.1 F.1 (op s).toNatClampNeg (fa s) (fb s) (fc s)).2.2) (F.2.2.2.2 + 1)
noncomputable def mz_mk (op fa fb fc cl hm : Nat → Int32) (s : Nat) (fe it c : Nat → Int32) (n : Nat) : (Nat → Int32) × Nat := @ite _ (mz_ndl op fa fb cl hm s) (Classical.propDecidable _) (c, n) (mz_mkN op fa fb fc cl hm s (mz_f2 op fa fb fc cl hm s (0, fe, it, c, n)))
theorem mz_mk_t {op fa fb fc cl hm fe it c : Nat → Int32} {s n : Nat} (h : mz_ndl op fa fb cl hm s) : mz_mk op fa fb fc cl hm s fe it c n = (c, n) := if_pos h
theorem mz_mk_f {op fa fb fc cl hm fe it c : Nat → Int32} {s n : Nat} (h : ¬ mz_ndl op fa fb cl hm s) : mz_mk op fa fb fc cl hm s fe it c n = mz_mkN op fa fb fc cl hm s (mz_f2 op fa fb fc cl hm s (0, fe, it, c, n)) := if_neg h
theorem mz_mkN_0 {op fa fb fc cl hm : Nat → Int32} {s a : Nat} {F : mz_FS} (ek : op s = nI 0) (ha : a < 2 ^ 31) (ea : fa s = nI a) : mz_mkN op fa fb fc cl hm s F = mz_kp cl hm (mz_anew op fa s) (mz_lay F.2.2.2.1 F.2.2.2.2 (nI 0) (mz_to cl hm a) (fb s) (nI 0)) (F.2.2.2.2 + 1) := by
  unfold mz_mkN
  rw [ek, nI_clamp (show 0 < 2 ^ 31 by omega)]
  dsimp only [mz_xyz]
  rw [ea, nI_clamp ha]
  rfl
theorem mz_mkN_1 {op fa fb fc cl hm : Nat → Int32} {s a b : Nat} {F : mz_FS} (ek : op s = nI 1) (ha : a < 2 ^ 31) (ea : fa s = nI a) (hb : b < 2 ^ 31) (eb : fb s = nI b) : mz_mkN op fa fb fc cl hm s F = mz_kp cl hm (mz_anew op fa s) (mz_lay F.2.2.2.1 F.2.2.2.2 (nI 1) (mz_to cl hm a) (mz_from cl hm F.2.1 F.2.2.1 F.1 b) (nI 0)) (F.2.2.2.2 + 1) := by
  unfold mz_mkN
  rw [ek, nI_clamp (show 1 < 2 ^ 31 by omega)]
  dsimp only [mz_xyz]
  rw [ea, eb, nI_clamp ha, nI_clamp hb]
  rfl
theorem mz_mkN_2 {op fa fb fc cl hm : Nat → Int32} {s a b c : Nat} {F : mz_FS} (ek : op s = nI 2) (ha : a < 2 ^ 31) (ea : fa s = nI a) (hb : b < 2 ^ 31) (eb : fb s = nI b) (hc : c < 2 ^ 31) (ec : fc s = nI c) : mz_mkN op fa fb fc cl hm s F = mz_kp cl hm (mz_anew op fa s) (mz_lay F.2.2.2.1 F.2.2.2.2 (nI 2) (mz_to cl hm a) (mz_from cl hm F.2.1 F.2.2.1 F.1 b) (mz_from cl hm F.2.1 F.2.2.1 F.1 c)) (F.2.2.2.2 + 1) := by
  unfold mz_mkN
  rw [ek, nI_clamp (show 2 < 2 ^ 31 by omega)]
  dsimp only [mz_xyz]
  rw [ea, eb, ec, nI_clamp ha, nI_clamp hb, nI_clamp hc]
  rfl
theorem mz_mkN_3 {op fa fb fc cl hm : Nat → Int32} {s a b c : Nat} {F : mz_FS} (ek : op s = nI 3) (ha : a < 2 ^ 31) (ea : fa s = nI a) (hb : b < 2 ^ 31) (eb : fb s = nI b) (hc : c < 2 ^ 31) (ec : fc s = nI c) : mz_mkN op fa fb fc cl hm s F = mz_kp cl hm (mz_anew op fa s) (mz_lay F.2.2.2.1 F.2.2.2.2 (nI 3) (mz_to cl hm a) (mz_from cl hm F.2.1 F.2.2.1 F.1 b) (mz_from cl hm F.2.1 F.2.2.1 F.1 c)) (F.2.2.2.2 + 1) := by
  unfold mz_mkN
  rw [ek, nI_clamp (show 3 < 2 ^ 31 by omega)]
  dsimp only [mz_xyz]
  rw [ea, eb, ec, nI_clamp ha, nI_clamp hb, nI_clamp hc]
  rfl
theorem mz_mkN_4 {op fa fb fc cl hm : Nat → Int32} {s a b c : Nat} {F : mz_FS} (ek : op s = nI 4) (ha : a < 2 ^ 31) (ea : fa s = nI a) (hb : b < 2 ^ 31) (eb : fb s = nI b) (hc : c < 2 ^ 31) (ec : fc s = nI c) : mz_mkN op fa fb fc cl hm s F = mz_kp cl hm (mz_anew op fa s) (mz_lay F.2.2.2.1 F.2.2.2.2 (nI 4) (mz_to cl hm a) (mz_from cl hm F.2.1 F.2.2.1 F.1 b) (mz_from cl hm F.2.1 F.2.2.1 F.1 c)) (F.2.2.2.2 + 1) := by
  unfold mz_mkN
  rw [ek, nI_clamp (show 4 < 2 ^ 31 by omega)]
  dsimp only [mz_xyz]
  rw [ea, eb, ec, nI_clamp ha, nI_clamp hb, nI_clamp hc]
  rfl
theorem mz_mkN_5 {op fa fb fc cl hm : Nat → Int32} {s a b : Nat} {F : mz_FS} (ek : op s = nI 5) (ha : a < 2 ^ 31) (ea : fa s = nI a) (hb : b < 2 ^ 31) (eb : fb s = nI b) : mz_mkN op fa fb fc cl hm s F = mz_kp cl hm (mz_anew op fa s) (mz_lay F.2.2.2.1 F.2.2.2.2 (nI 5) (mz_to cl hm a) (mz_from cl hm F.2.1 F.2.2.1 F.1 b) (fc s)) (F.2.2.2.2 + 1) := by
  unfold mz_mkN
  rw [ek, nI_clamp (show 5 < 2 ^ 31 by omega)]
  dsimp only [mz_xyz]
  rw [ea, eb, nI_clamp ha, nI_clamp hb]
  rfl
theorem mz_mkN_6 {op fa fb fc cl hm : Nat → Int32} {s a b : Nat} {F : mz_FS} (ek : op s = nI 6) (ha : a < 2 ^ 31) (ea : fa s = nI a) (hb : b < 2 ^ 31) (eb : fb s = nI b) : mz_mkN op fa fb fc cl hm s F = mz_kp cl hm (mz_anew op fa s) (mz_lay F.2.2.2.1 F.2.2.2.2 (nI 6) (mz_from cl hm F.2.1 F.2.2.1 F.1 a) (mz_from cl hm F.2.1 F.2.2.1 F.1 b) (fc s)) (F.2.2.2.2 + 1) := by
  unfold mz_mkN
  rw [ek, nI_clamp (show 6 < 2 ^ 31 by omega)]
  dsimp only [mz_xyz]
  rw [ea, eb, nI_clamp ha, nI_clamp hb]
  rfl
theorem mz_mkN_7 {op fa fb fc cl hm : Nat → Int32} {s a b : Nat} {F : mz_FS} (ek : op s = nI 7) (ha : a < 2 ^ 31) (ea : fa s = nI a) (hb : b < 2 ^ 31) (eb : fb s = nI b) : mz_mkN op fa fb fc cl hm s F = mz_kp cl hm (mz_anew op fa s) (mz_lay F.2.2.2.1 F.2.2.2.2 (nI 7) (mz_from cl hm F.2.1 F.2.2.1 F.1 a) (mz_from cl hm F.2.1 F.2.2.1 F.1 b) (fc s)) (F.2.2.2.2 + 1) := by
  unfold mz_mkN
  rw [ek, nI_clamp (show 7 < 2 ^ 31 by omega)]
  dsimp only [mz_xyz]
  rw [ea, eb, nI_clamp ha, nI_clamp hb]
  rfl
theorem mz_mkN_8 {op fa fb fc cl hm : Nat → Int32} {s : Nat} {F : mz_FS} (ek : op s = nI 8) : mz_mkN op fa fb fc cl hm s F = mz_kp cl hm (mz_anew op fa s) (mz_lay F.2.2.2.1 F.2.2.2.2 (nI 8) (fa s) (nI 0) (nI 0)) (F.2.2.2.2 + 1) := by
  unfold mz_mkN
  rw [ek, nI_clamp (show 8 < 2 ^ 31 by omega)]
  rfl
theorem mz_mkN_9 {op fa fb fc cl hm : Nat → Int32} {s a : Nat} {F : mz_FS} (ek : op s = nI 9) (ha : a < 2 ^ 31) (ea : fa s = nI a) : mz_mkN op fa fb fc cl hm s F = mz_kp cl hm (mz_anew op fa s) (mz_lay F.2.2.2.1 F.2.2.2.2 (nI 9) (mz_from cl hm F.2.1 F.2.2.1 F.1 a) (nI 0) (nI 0)) (F.2.2.2.2 + 1) := by
  unfold mz_mkN
  rw [ek, nI_clamp (show 9 < 2 ^ 31 by omega)]
  dsimp only [mz_xyz]
  rw [ea, nI_clamp ha]
  rfl
theorem mz_mkN_10 {op fa fb fc cl hm : Nat → Int32} {s : Nat} {F : mz_FS} (ek : op s = nI 10) : mz_mkN op fa fb fc cl hm s F = mz_kp cl hm (mz_anew op fa s) (mz_lay F.2.2.2.1 F.2.2.2.2 (nI 10) (nI 0) (nI 0) (nI 0)) (F.2.2.2.2 + 1) := by
  unfold mz_mkN
  rw [ek, nI_clamp (show 10 < 2 ^ 31 by omega)]
  rfl
set_option maxRecDepth 100000 in
set_option maxHeartbeats 4000000 in
theorem md_makeStep0 {G : am_G} (I A : Nat → Nat → Int32) (nv : Nat) (hnv : nv ≤ 24) (s : Nat) (hs : s < 60) (hsw : mz_sw nv (A m_ops s) (A m_first s) (A m_second s) (A m_third s)) (g : Nat → Int32) (n : Nat) (hg : A m_items = upd g 0 (nI n)) (hn : n < 390) (ek : A m_ops s = nI 0) (a : Nat) (ha : a < nv) (ea : A m_first s = nI a) : Cm G MX8_makeStep 2 48 [.ref mM, .int (nI s)] I A (fun r I' A' => r = none ∧ ∃ (z : Int32) (fe it : Nat → Int32), upI I mM 25 z = I' ∧ mz_FA A g (0, fe, it, (mz_mk (A m_ops) (A m_first) (A m_second) (A m_third) (A m_classes) (A m_homes) s (A m_fetches) (A m_into) (A m_code) n).1, (mz_mk (A m_ops) (A m_first) (A m_second) (A m_third) (A m_classes) (A m_homes) s (A m_fetches) (A m_into) (A m_code) n).2) = A') := by
  refine Cm.of (by decide) (Nat.le_of_ble_eq_true rfl) rfl ?_
  show V G MX8_makeStep (am_R 2 48 0 0) _ 0 0 0 [(0, .ref mM), (1, .int (nI s))] [] (hp I A)
  refine V.aload_n (j := 0) rfl dX8_makeStep_0 ?_
  refine V.getr (q := m_ops) dX8_makeStep_1 fX8_13 rfl rfl ?_
  refine V.iload_n (j := 1) rfl dX8_makeStep_4 ?_
  refine V.lda (v := nI 0) dX8_makeStep_5 rfl (by omega) (by decide) ek ?_
  refine V.istore_n (ls' := [(0, .ref mM), (1, .int (nI s)), (2, .int (nI 0))]) dX8_makeStep_6 (by decide) rfl ?_
  refine V.aload_n (j := 0) rfl dX8_makeStep_7 ?_
  refine V.getr (q := m_first) dX8_makeStep_8 fX8_16 rfl rfl ?_
  refine V.iload_n (j := 1) rfl dX8_makeStep_11 ?_
  refine V.lda (v := nI a) dX8_makeStep_12 rfl (by omega) (by decide) ea ?_
  refine V.istore_n (ls' := [(0, .ref mM), (1, .int (nI s)), (2, .int (nI 0)), (3, .int (nI a))]) dX8_makeStep_13 (by decide) rfl ?_
  refine V.aload_n (j := 0) rfl dX8_makeStep_14 ?_
  refine V.getr (q := m_second) dX8_makeStep_15 fX8_19 rfl rfl ?_
  refine V.iload_n (j := 1) rfl dX8_makeStep_18 ?_
  refine V.lda (v := A m_second s) dX8_makeStep_19 rfl (by omega) (by decide) rfl ?_
  refine V.istore (ls' := [(0, .ref mM), (1, .int (nI s)), (2, .int (nI 0)), (3, .int (nI a)), (4, .int (A m_second s))]) dX8_makeStep_20 (by decide) rfl ?_
  refine V.aload_n (j := 0) rfl dX8_makeStep_22 ?_
  refine V.getr (q := m_third) dX8_makeStep_23 fX8_22 rfl rfl ?_
  refine V.iload_n (j := 1) rfl dX8_makeStep_26 ?_
  refine V.lda (v := A m_third s) dX8_makeStep_27 rfl (by omega) (by decide) rfl ?_
  refine V.istore (ls' := [(0, .ref mM), (1, .int (nI s)), (2, .int (nI 0)), (3, .int (nI a)), (4, .int (A m_second s)), (5, .int (A m_third s))]) dX8_makeStep_28 (by decide) rfl ?_
  refine V.iload_n (j := 2) rfl dX8_makeStep_30 ?_
  refine V.iconst (v := nI 1) (by decide) dX8_makeStep_31 ?_
  refine V.icmp_ne (tgt := 68) dX8_makeStep_32 (by decide) (fun _ => ?_) (fun z => absurd z (by decide))
  have hno : ¬ mz_ndl (A m_ops) (A m_first) (A m_second) (A m_classes) (A m_homes) s := fun z => by have z1 := z.1; rw [ek, nI_eq (by omega) (by omega)] at z1; omega
  have hle := mz_f2_le (op := A m_ops) (fa := A m_first) (fb := A m_second) (fc := A m_third) (cl := A m_classes) (hm := A m_homes) (s := s) (F := (0, A m_fetches, A m_into, A m_code, n))
  dsimp only at hle
  refine ml_step1 I A nv hnv s hs _ _ _ _ (mz_sw_tak0 hsw) (mz_sw_tak1 hsw) g n hg (by omega) ?_
  refine ml_step2_0 (upI I mM 25 (nI (mz_f2 (A m_ops) (A m_first) (A m_second) (A m_third) (A m_classes) (A m_homes) s (0, A m_fetches, A m_into, A m_code, n)).1)) (mz_FA A g (mz_f2 (A m_ops) (A m_first) (A m_second) (A m_third) (A m_classes) (A m_homes) s (0, A m_fetches, A m_into, A m_code, n))) s (mz_f2 (A m_ops) (A m_first) (A m_second) (A m_third) (A m_classes) (A m_homes) s (0, A m_fetches, A m_into, A m_code, n)).1 (by omega) upI_s a (by omega) (A m_second s) (A m_third s) g (mz_f2 (A m_ops) (A m_first) (A m_second) (A m_third) (A m_classes) (A m_homes) s (0, A m_fetches, A m_into, A m_code, n)).2.2.2.2 rfl (by omega) ?_
  refine ml_step3 _ _ nv hnv s hs (mz_sw_anew (fb := A m_second) (fc := A m_third) hsw) g ((mz_f2 (A m_ops) (A m_first) (A m_second) (A m_third) (A m_classes) (A m_homes) s (0, A m_fetches, A m_into, A m_code, n)).2.2.2.2 + 1) rfl (by omega) ?_
  refine V.rv dX8_makeStep_361 rfl ?_
  refine ⟨rfl, _, (mz_f2 (A m_ops) (A m_first) (A m_second) (A m_third) (A m_classes) (A m_homes) s (0, A m_fetches, A m_into, A m_code, n)).2.1, (mz_f2 (A m_ops) (A m_first) (A m_second) (A m_third) (A m_classes) (A m_homes) s (0, A m_fetches, A m_into, A m_code, n)).2.2.1, rfl, ?_⟩
  rw [mz_FA_2, mz_FA_2, mz_mk_f hno]
  rw [mz_mkN_0 ek (show a < 2 ^ 31 by omega) ea]
  rfl
set_option maxRecDepth 100000 in
set_option maxHeartbeats 4000000 in
theorem md_makeStep1 {G : am_G} (I A : Nat → Nat → Int32) (nv : Nat) (hnv : nv ≤ 24) (s : Nat) (hs : s < 60) (hsw : mz_sw nv (A m_ops s) (A m_first s) (A m_second s) (A m_third s)) (g : Nat → Int32) (n : Nat) (hg : A m_items = upd g 0 (nI n)) (hn : n < 390) (ek : A m_ops s = nI 1) (a : Nat) (ha : a < nv) (ea : A m_first s = nI a) (b : Nat) (hb : b < nv) (eb : A m_second s = nI b) : Cm G MX8_makeStep 2 48 [.ref mM, .int (nI s)] I A (fun r I' A' => r = none ∧ ∃ (z : Int32) (fe it : Nat → Int32), upI I mM 25 z = I' ∧ mz_FA A g (0, fe, it, (mz_mk (A m_ops) (A m_first) (A m_second) (A m_third) (A m_classes) (A m_homes) s (A m_fetches) (A m_into) (A m_code) n).1, (mz_mk (A m_ops) (A m_first) (A m_second) (A m_third) (A m_classes) (A m_homes) s (A m_fetches) (A m_into) (A m_code) n).2) = A') := by
  refine Cm.of (by decide) (Nat.le_of_ble_eq_true rfl) rfl ?_
  show V G MX8_makeStep (am_R 2 48 0 0) _ 0 0 0 [(0, .ref mM), (1, .int (nI s))] [] (hp I A)
  refine V.aload_n (j := 0) rfl dX8_makeStep_0 ?_
  refine V.getr (q := m_ops) dX8_makeStep_1 fX8_13 rfl rfl ?_
  refine V.iload_n (j := 1) rfl dX8_makeStep_4 ?_
  refine V.lda (v := nI 1) dX8_makeStep_5 rfl (by omega) (by decide) ek ?_
  refine V.istore_n (ls' := [(0, .ref mM), (1, .int (nI s)), (2, .int (nI 1))]) dX8_makeStep_6 (by decide) rfl ?_
  refine V.aload_n (j := 0) rfl dX8_makeStep_7 ?_
  refine V.getr (q := m_first) dX8_makeStep_8 fX8_16 rfl rfl ?_
  refine V.iload_n (j := 1) rfl dX8_makeStep_11 ?_
  refine V.lda (v := nI a) dX8_makeStep_12 rfl (by omega) (by decide) ea ?_
  refine V.istore_n (ls' := [(0, .ref mM), (1, .int (nI s)), (2, .int (nI 1)), (3, .int (nI a))]) dX8_makeStep_13 (by decide) rfl ?_
  refine V.aload_n (j := 0) rfl dX8_makeStep_14 ?_
  refine V.getr (q := m_second) dX8_makeStep_15 fX8_19 rfl rfl ?_
  refine V.iload_n (j := 1) rfl dX8_makeStep_18 ?_
  refine V.lda (v := nI b) dX8_makeStep_19 rfl (by omega) (by decide) eb ?_
  refine V.istore (ls' := [(0, .ref mM), (1, .int (nI s)), (2, .int (nI 1)), (3, .int (nI a)), (4, .int (nI b))]) dX8_makeStep_20 (by decide) rfl ?_
  refine V.aload_n (j := 0) rfl dX8_makeStep_22 ?_
  refine V.getr (q := m_third) dX8_makeStep_23 fX8_22 rfl rfl ?_
  refine V.iload_n (j := 1) rfl dX8_makeStep_26 ?_
  refine V.lda (v := A m_third s) dX8_makeStep_27 rfl (by omega) (by decide) rfl ?_
  refine V.istore (ls' := [(0, .ref mM), (1, .int (nI s)), (2, .int (nI 1)), (3, .int (nI a)), (4, .int (nI b)), (5, .int (A m_third s))]) dX8_makeStep_28 (by decide) rfl ?_
  refine V.iload_n (j := 2) rfl dX8_makeStep_30 ?_
  refine V.iconst (v := nI 1) (by decide) dX8_makeStep_31 ?_
  refine V.icmp_ne (tgt := 68) dX8_makeStep_32 (by decide) (fun z => absurd z (by decide)) (fun _ => ?_)
  refine V.aload_n (j := 0) rfl dX8_makeStep_35 ?_
  refine V.getr (q := m_classes) dX8_makeStep_36 fX8_7 rfl rfl ?_
  refine V.iload_n (j := 3) rfl dX8_makeStep_39 ?_
  refine V.lda (v := A m_classes a) dX8_makeStep_40 rfl (by omega) (by decide) rfl ?_
  refine V.aload_n (j := 0) rfl dX8_makeStep_41 ?_
  refine V.getr (q := m_classes) dX8_makeStep_42 fX8_7 rfl rfl ?_
  refine V.iload (j := 4) rfl dX8_makeStep_45 ?_
  refine V.lda (v := A m_classes b) dX8_makeStep_47 rfl (by omega) (by decide) rfl ?_
  refine V.icmp_ne (tgt := 68) dX8_makeStep_48 (by decide) (fun c2 => ?_) (fun c2 => ?_)
  · have hno : ¬ mz_ndl (A m_ops) (A m_first) (A m_second) (A m_classes) (A m_homes) s := fun z => c2 (by have z2 := z.2.1; rw [ea, eb, nI_clamp (by omega), nI_clamp (by omega)] at z2; exact z2)
    have hle := mz_f2_le (op := A m_ops) (fa := A m_first) (fb := A m_second) (fc := A m_third) (cl := A m_classes) (hm := A m_homes) (s := s) (F := (0, A m_fetches, A m_into, A m_code, n))
    dsimp only at hle
    refine ml_step1 I A nv hnv s hs _ _ _ _ (mz_sw_tak0 hsw) (mz_sw_tak1 hsw) g n hg (by omega) ?_
    refine ml_step2_1 (upI I mM 25 (nI (mz_f2 (A m_ops) (A m_first) (A m_second) (A m_third) (A m_classes) (A m_homes) s (0, A m_fetches, A m_into, A m_code, n)).1)) (mz_FA A g (mz_f2 (A m_ops) (A m_first) (A m_second) (A m_third) (A m_classes) (A m_homes) s (0, A m_fetches, A m_into, A m_code, n))) s (mz_f2 (A m_ops) (A m_first) (A m_second) (A m_third) (A m_classes) (A m_homes) s (0, A m_fetches, A m_into, A m_code, n)).1 (by omega) upI_s a (by omega) b (by omega) (A m_third s) g (mz_f2 (A m_ops) (A m_first) (A m_second) (A m_third) (A m_classes) (A m_homes) s (0, A m_fetches, A m_into, A m_code, n)).2.2.2.2 rfl (by omega) ?_
    refine ml_step3 _ _ nv hnv s hs (mz_sw_anew (fb := A m_second) (fc := A m_third) hsw) g ((mz_f2 (A m_ops) (A m_first) (A m_second) (A m_third) (A m_classes) (A m_homes) s (0, A m_fetches, A m_into, A m_code, n)).2.2.2.2 + 1) rfl (by omega) ?_
    refine V.rv dX8_makeStep_361 rfl ?_
    refine ⟨rfl, _, (mz_f2 (A m_ops) (A m_first) (A m_second) (A m_third) (A m_classes) (A m_homes) s (0, A m_fetches, A m_into, A m_code, n)).2.1, (mz_f2 (A m_ops) (A m_first) (A m_second) (A m_third) (A m_classes) (A m_homes) s (0, A m_fetches, A m_into, A m_code, n)).2.2.1, rfl, ?_⟩
    rw [mz_FA_2, mz_FA_2, mz_mk_f hno]
    rw [mz_mkN_1 ek (show a < 2 ^ 31 by omega) ea (show b < 2 ^ 31 by omega) eb]
    rfl
  · refine V.aload_n (j := 0) rfl dX8_makeStep_51 ?_
    refine V.getr (q := m_homes) dX8_makeStep_52 fX8_46 rfl rfl ?_
    refine V.iload_n (j := 3) rfl dX8_makeStep_55 ?_
    refine V.lda (v := A m_homes a) dX8_makeStep_56 rfl (by omega) (by decide) rfl ?_
    refine V.aload_n (j := 0) rfl dX8_makeStep_57 ?_
    refine V.getr (q := m_homes) dX8_makeStep_58 fX8_46 rfl rfl ?_
    refine V.iload (j := 4) rfl dX8_makeStep_61 ?_
    refine V.lda (v := A m_homes b) dX8_makeStep_63 rfl (by omega) (by decide) rfl ?_
    refine V.icmp_ne (tgt := 68) dX8_makeStep_64 (by decide) (fun c3 => ?_) (fun c3 => ?_)
    · have hno : ¬ mz_ndl (A m_ops) (A m_first) (A m_second) (A m_classes) (A m_homes) s := fun z => c3 (by have z2 := z.2.2; rw [ea, eb, nI_clamp (by omega), nI_clamp (by omega)] at z2; exact z2)
      have hle := mz_f2_le (op := A m_ops) (fa := A m_first) (fb := A m_second) (fc := A m_third) (cl := A m_classes) (hm := A m_homes) (s := s) (F := (0, A m_fetches, A m_into, A m_code, n))
      dsimp only at hle
      refine ml_step1 I A nv hnv s hs _ _ _ _ (mz_sw_tak0 hsw) (mz_sw_tak1 hsw) g n hg (by omega) ?_
      refine ml_step2_1 (upI I mM 25 (nI (mz_f2 (A m_ops) (A m_first) (A m_second) (A m_third) (A m_classes) (A m_homes) s (0, A m_fetches, A m_into, A m_code, n)).1)) (mz_FA A g (mz_f2 (A m_ops) (A m_first) (A m_second) (A m_third) (A m_classes) (A m_homes) s (0, A m_fetches, A m_into, A m_code, n))) s (mz_f2 (A m_ops) (A m_first) (A m_second) (A m_third) (A m_classes) (A m_homes) s (0, A m_fetches, A m_into, A m_code, n)).1 (by omega) upI_s a (by omega) b (by omega) (A m_third s) g (mz_f2 (A m_ops) (A m_first) (A m_second) (A m_third) (A m_classes) (A m_homes) s (0, A m_fetches, A m_into, A m_code, n)).2.2.2.2 rfl (by omega) ?_
      refine ml_step3 _ _ nv hnv s hs (mz_sw_anew (fb := A m_second) (fc := A m_third) hsw) g ((mz_f2 (A m_ops) (A m_first) (A m_second) (A m_third) (A m_classes) (A m_homes) s (0, A m_fetches, A m_into, A m_code, n)).2.2.2.2 + 1) rfl (by omega) ?_
      refine V.rv dX8_makeStep_361 rfl ?_
      refine ⟨rfl, _, (mz_f2 (A m_ops) (A m_first) (A m_second) (A m_third) (A m_classes) (A m_homes) s (0, A m_fetches, A m_into, A m_code, n)).2.1, (mz_f2 (A m_ops) (A m_first) (A m_second) (A m_third) (A m_classes) (A m_homes) s (0, A m_fetches, A m_into, A m_code, n)).2.2.1, rfl, ?_⟩
      rw [mz_FA_2, mz_FA_2, mz_mk_f hno]
      rw [mz_mkN_1 ek (show a < 2 ^ 31 by omega) ea (show b < 2 ^ 31 by omega) eb]
      rfl
    · refine V.rv dX8_makeStep_67 rfl ?_
      have hy : mz_ndl (A m_ops) (A m_first) (A m_second) (A m_classes) (A m_homes) s := ⟨ek, by rw [ea, eb, nI_clamp (by omega), nI_clamp (by omega)]; exact c2, by rw [ea, eb, nI_clamp (by omega), nI_clamp (by omega)]; exact c3⟩
      exact ⟨rfl, I mM 25, A m_fetches, A m_into, upI_i, by rw [mz_mk_t hy, mz_FA_i hg]⟩
set_option maxRecDepth 100000 in
set_option maxHeartbeats 4000000 in
theorem md_makeStep2 {G : am_G} (I A : Nat → Nat → Int32) (nv : Nat) (hnv : nv ≤ 24) (s : Nat) (hs : s < 60) (hsw : mz_sw nv (A m_ops s) (A m_first s) (A m_second s) (A m_third s)) (g : Nat → Int32) (n : Nat) (hg : A m_items = upd g 0 (nI n)) (hn : n < 390) (ek : A m_ops s = nI 2) (a : Nat) (ha : a < nv) (ea : A m_first s = nI a) (b : Nat) (hb : b < nv) (eb : A m_second s = nI b) (c : Nat) (hc : c < nv) (ec : A m_third s = nI c) : Cm G MX8_makeStep 2 48 [.ref mM, .int (nI s)] I A (fun r I' A' => r = none ∧ ∃ (z : Int32) (fe it : Nat → Int32), upI I mM 25 z = I' ∧ mz_FA A g (0, fe, it, (mz_mk (A m_ops) (A m_first) (A m_second) (A m_third) (A m_classes) (A m_homes) s (A m_fetches) (A m_into) (A m_code) n).1, (mz_mk (A m_ops) (A m_first) (A m_second) (A m_third) (A m_classes) (A m_homes) s (A m_fetches) (A m_into) (A m_code) n).2) = A') := by
  refine Cm.of (by decide) (Nat.le_of_ble_eq_true rfl) rfl ?_
  show V G MX8_makeStep (am_R 2 48 0 0) _ 0 0 0 [(0, .ref mM), (1, .int (nI s))] [] (hp I A)
  refine V.aload_n (j := 0) rfl dX8_makeStep_0 ?_
  refine V.getr (q := m_ops) dX8_makeStep_1 fX8_13 rfl rfl ?_
  refine V.iload_n (j := 1) rfl dX8_makeStep_4 ?_
  refine V.lda (v := nI 2) dX8_makeStep_5 rfl (by omega) (by decide) ek ?_
  refine V.istore_n (ls' := [(0, .ref mM), (1, .int (nI s)), (2, .int (nI 2))]) dX8_makeStep_6 (by decide) rfl ?_
  refine V.aload_n (j := 0) rfl dX8_makeStep_7 ?_
  refine V.getr (q := m_first) dX8_makeStep_8 fX8_16 rfl rfl ?_
  refine V.iload_n (j := 1) rfl dX8_makeStep_11 ?_
  refine V.lda (v := nI a) dX8_makeStep_12 rfl (by omega) (by decide) ea ?_
  refine V.istore_n (ls' := [(0, .ref mM), (1, .int (nI s)), (2, .int (nI 2)), (3, .int (nI a))]) dX8_makeStep_13 (by decide) rfl ?_
  refine V.aload_n (j := 0) rfl dX8_makeStep_14 ?_
  refine V.getr (q := m_second) dX8_makeStep_15 fX8_19 rfl rfl ?_
  refine V.iload_n (j := 1) rfl dX8_makeStep_18 ?_
  refine V.lda (v := nI b) dX8_makeStep_19 rfl (by omega) (by decide) eb ?_
  refine V.istore (ls' := [(0, .ref mM), (1, .int (nI s)), (2, .int (nI 2)), (3, .int (nI a)), (4, .int (nI b))]) dX8_makeStep_20 (by decide) rfl ?_
  refine V.aload_n (j := 0) rfl dX8_makeStep_22 ?_
  refine V.getr (q := m_third) dX8_makeStep_23 fX8_22 rfl rfl ?_
  refine V.iload_n (j := 1) rfl dX8_makeStep_26 ?_
  refine V.lda (v := nI c) dX8_makeStep_27 rfl (by omega) (by decide) ec ?_
  refine V.istore (ls' := [(0, .ref mM), (1, .int (nI s)), (2, .int (nI 2)), (3, .int (nI a)), (4, .int (nI b)), (5, .int (nI c))]) dX8_makeStep_28 (by decide) rfl ?_
  refine V.iload_n (j := 2) rfl dX8_makeStep_30 ?_
  refine V.iconst (v := nI 1) (by decide) dX8_makeStep_31 ?_
  refine V.icmp_ne (tgt := 68) dX8_makeStep_32 (by decide) (fun _ => ?_) (fun z => absurd z (by decide))
  have hno : ¬ mz_ndl (A m_ops) (A m_first) (A m_second) (A m_classes) (A m_homes) s := fun z => by have z1 := z.1; rw [ek, nI_eq (by omega) (by omega)] at z1; omega
  have hle := mz_f2_le (op := A m_ops) (fa := A m_first) (fb := A m_second) (fc := A m_third) (cl := A m_classes) (hm := A m_homes) (s := s) (F := (0, A m_fetches, A m_into, A m_code, n))
  dsimp only at hle
  refine ml_step1 I A nv hnv s hs _ _ _ _ (mz_sw_tak0 hsw) (mz_sw_tak1 hsw) g n hg (by omega) ?_
  refine ml_step2_2 (upI I mM 25 (nI (mz_f2 (A m_ops) (A m_first) (A m_second) (A m_third) (A m_classes) (A m_homes) s (0, A m_fetches, A m_into, A m_code, n)).1)) (mz_FA A g (mz_f2 (A m_ops) (A m_first) (A m_second) (A m_third) (A m_classes) (A m_homes) s (0, A m_fetches, A m_into, A m_code, n))) s (mz_f2 (A m_ops) (A m_first) (A m_second) (A m_third) (A m_classes) (A m_homes) s (0, A m_fetches, A m_into, A m_code, n)).1 (by omega) upI_s a (by omega) b (by omega) c (by omega) g (mz_f2 (A m_ops) (A m_first) (A m_second) (A m_third) (A m_classes) (A m_homes) s (0, A m_fetches, A m_into, A m_code, n)).2.2.2.2 rfl (by omega) ?_
  refine ml_step3 _ _ nv hnv s hs (mz_sw_anew (fb := A m_second) (fc := A m_third) hsw) g ((mz_f2 (A m_ops) (A m_first) (A m_second) (A m_third) (A m_classes) (A m_homes) s (0, A m_fetches, A m_into, A m_code, n)).2.2.2.2 + 1) rfl (by omega) ?_
  refine V.rv dX8_makeStep_361 rfl ?_
  refine ⟨rfl, _, (mz_f2 (A m_ops) (A m_first) (A m_second) (A m_third) (A m_classes) (A m_homes) s (0, A m_fetches, A m_into, A m_code, n)).2.1, (mz_f2 (A m_ops) (A m_first) (A m_second) (A m_third) (A m_classes) (A m_homes) s (0, A m_fetches, A m_into, A m_code, n)).2.2.1, rfl, ?_⟩
  rw [mz_FA_2, mz_FA_2, mz_mk_f hno]
  rw [mz_mkN_2 ek (show a < 2 ^ 31 by omega) ea (show b < 2 ^ 31 by omega) eb (show c < 2 ^ 31 by omega) ec]
  rfl
set_option maxRecDepth 100000 in
set_option maxHeartbeats 4000000 in
theorem md_makeStep3 {G : am_G} (I A : Nat → Nat → Int32) (nv : Nat) (hnv : nv ≤ 24) (s : Nat) (hs : s < 60) (hsw : mz_sw nv (A m_ops s) (A m_first s) (A m_second s) (A m_third s)) (g : Nat → Int32) (n : Nat) (hg : A m_items = upd g 0 (nI n)) (hn : n < 390) (ek : A m_ops s = nI 3) (a : Nat) (ha : a < nv) (ea : A m_first s = nI a) (b : Nat) (hb : b < nv) (eb : A m_second s = nI b) (c : Nat) (hc : c < nv) (ec : A m_third s = nI c) : Cm G MX8_makeStep 2 48 [.ref mM, .int (nI s)] I A (fun r I' A' => r = none ∧ ∃ (z : Int32) (fe it : Nat → Int32), upI I mM 25 z = I' ∧ mz_FA A g (0, fe, it, (mz_mk (A m_ops) (A m_first) (A m_second) (A m_third) (A m_classes) (A m_homes) s (A m_fetches) (A m_into) (A m_code) n).1, (mz_mk (A m_ops) (A m_first) (A m_second) (A m_third) (A m_classes) (A m_homes) s (A m_fetches) (A m_into) (A m_code) n).2) = A') := by
  refine Cm.of (by decide) (Nat.le_of_ble_eq_true rfl) rfl ?_
  show V G MX8_makeStep (am_R 2 48 0 0) _ 0 0 0 [(0, .ref mM), (1, .int (nI s))] [] (hp I A)
  refine V.aload_n (j := 0) rfl dX8_makeStep_0 ?_
  refine V.getr (q := m_ops) dX8_makeStep_1 fX8_13 rfl rfl ?_
  refine V.iload_n (j := 1) rfl dX8_makeStep_4 ?_
  refine V.lda (v := nI 3) dX8_makeStep_5 rfl (by omega) (by decide) ek ?_
  refine V.istore_n (ls' := [(0, .ref mM), (1, .int (nI s)), (2, .int (nI 3))]) dX8_makeStep_6 (by decide) rfl ?_
  refine V.aload_n (j := 0) rfl dX8_makeStep_7 ?_
  refine V.getr (q := m_first) dX8_makeStep_8 fX8_16 rfl rfl ?_
  refine V.iload_n (j := 1) rfl dX8_makeStep_11 ?_
  refine V.lda (v := nI a) dX8_makeStep_12 rfl (by omega) (by decide) ea ?_
  refine V.istore_n (ls' := [(0, .ref mM), (1, .int (nI s)), (2, .int (nI 3)), (3, .int (nI a))]) dX8_makeStep_13 (by decide) rfl ?_
  refine V.aload_n (j := 0) rfl dX8_makeStep_14 ?_
  refine V.getr (q := m_second) dX8_makeStep_15 fX8_19 rfl rfl ?_
  refine V.iload_n (j := 1) rfl dX8_makeStep_18 ?_
  refine V.lda (v := nI b) dX8_makeStep_19 rfl (by omega) (by decide) eb ?_
  refine V.istore (ls' := [(0, .ref mM), (1, .int (nI s)), (2, .int (nI 3)), (3, .int (nI a)), (4, .int (nI b))]) dX8_makeStep_20 (by decide) rfl ?_
  refine V.aload_n (j := 0) rfl dX8_makeStep_22 ?_
  refine V.getr (q := m_third) dX8_makeStep_23 fX8_22 rfl rfl ?_
  refine V.iload_n (j := 1) rfl dX8_makeStep_26 ?_
  refine V.lda (v := nI c) dX8_makeStep_27 rfl (by omega) (by decide) ec ?_
  refine V.istore (ls' := [(0, .ref mM), (1, .int (nI s)), (2, .int (nI 3)), (3, .int (nI a)), (4, .int (nI b)), (5, .int (nI c))]) dX8_makeStep_28 (by decide) rfl ?_
  refine V.iload_n (j := 2) rfl dX8_makeStep_30 ?_
  refine V.iconst (v := nI 1) (by decide) dX8_makeStep_31 ?_
  refine V.icmp_ne (tgt := 68) dX8_makeStep_32 (by decide) (fun _ => ?_) (fun z => absurd z (by decide))
  have hno : ¬ mz_ndl (A m_ops) (A m_first) (A m_second) (A m_classes) (A m_homes) s := fun z => by have z1 := z.1; rw [ek, nI_eq (by omega) (by omega)] at z1; omega
  have hle := mz_f2_le (op := A m_ops) (fa := A m_first) (fb := A m_second) (fc := A m_third) (cl := A m_classes) (hm := A m_homes) (s := s) (F := (0, A m_fetches, A m_into, A m_code, n))
  dsimp only at hle
  refine ml_step1 I A nv hnv s hs _ _ _ _ (mz_sw_tak0 hsw) (mz_sw_tak1 hsw) g n hg (by omega) ?_
  refine ml_step2_3 (upI I mM 25 (nI (mz_f2 (A m_ops) (A m_first) (A m_second) (A m_third) (A m_classes) (A m_homes) s (0, A m_fetches, A m_into, A m_code, n)).1)) (mz_FA A g (mz_f2 (A m_ops) (A m_first) (A m_second) (A m_third) (A m_classes) (A m_homes) s (0, A m_fetches, A m_into, A m_code, n))) s (mz_f2 (A m_ops) (A m_first) (A m_second) (A m_third) (A m_classes) (A m_homes) s (0, A m_fetches, A m_into, A m_code, n)).1 (by omega) upI_s a (by omega) b (by omega) c (by omega) g (mz_f2 (A m_ops) (A m_first) (A m_second) (A m_third) (A m_classes) (A m_homes) s (0, A m_fetches, A m_into, A m_code, n)).2.2.2.2 rfl (by omega) ?_
  refine ml_step3 _ _ nv hnv s hs (mz_sw_anew (fb := A m_second) (fc := A m_third) hsw) g ((mz_f2 (A m_ops) (A m_first) (A m_second) (A m_third) (A m_classes) (A m_homes) s (0, A m_fetches, A m_into, A m_code, n)).2.2.2.2 + 1) rfl (by omega) ?_
  refine V.rv dX8_makeStep_361 rfl ?_
  refine ⟨rfl, _, (mz_f2 (A m_ops) (A m_first) (A m_second) (A m_third) (A m_classes) (A m_homes) s (0, A m_fetches, A m_into, A m_code, n)).2.1, (mz_f2 (A m_ops) (A m_first) (A m_second) (A m_third) (A m_classes) (A m_homes) s (0, A m_fetches, A m_into, A m_code, n)).2.2.1, rfl, ?_⟩
  rw [mz_FA_2, mz_FA_2, mz_mk_f hno]
  rw [mz_mkN_3 ek (show a < 2 ^ 31 by omega) ea (show b < 2 ^ 31 by omega) eb (show c < 2 ^ 31 by omega) ec]
  rfl
set_option maxRecDepth 100000 in
set_option maxHeartbeats 4000000 in
theorem md_makeStep4 {G : am_G} (I A : Nat → Nat → Int32) (nv : Nat) (hnv : nv ≤ 24) (s : Nat) (hs : s < 60) (hsw : mz_sw nv (A m_ops s) (A m_first s) (A m_second s) (A m_third s)) (g : Nat → Int32) (n : Nat) (hg : A m_items = upd g 0 (nI n)) (hn : n < 390) (ek : A m_ops s = nI 4) (a : Nat) (ha : a < nv) (ea : A m_first s = nI a) (b : Nat) (hb : b < nv) (eb : A m_second s = nI b) (c : Nat) (hc : c < nv) (ec : A m_third s = nI c) : Cm G MX8_makeStep 2 48 [.ref mM, .int (nI s)] I A (fun r I' A' => r = none ∧ ∃ (z : Int32) (fe it : Nat → Int32), upI I mM 25 z = I' ∧ mz_FA A g (0, fe, it, (mz_mk (A m_ops) (A m_first) (A m_second) (A m_third) (A m_classes) (A m_homes) s (A m_fetches) (A m_into) (A m_code) n).1, (mz_mk (A m_ops) (A m_first) (A m_second) (A m_third) (A m_classes) (A m_homes) s (A m_fetches) (A m_into) (A m_code) n).2) = A') := by
  refine Cm.of (by decide) (Nat.le_of_ble_eq_true rfl) rfl ?_
  show V G MX8_makeStep (am_R 2 48 0 0) _ 0 0 0 [(0, .ref mM), (1, .int (nI s))] [] (hp I A)
  refine V.aload_n (j := 0) rfl dX8_makeStep_0 ?_
  refine V.getr (q := m_ops) dX8_makeStep_1 fX8_13 rfl rfl ?_
  refine V.iload_n (j := 1) rfl dX8_makeStep_4 ?_
  refine V.lda (v := nI 4) dX8_makeStep_5 rfl (by omega) (by decide) ek ?_
  refine V.istore_n (ls' := [(0, .ref mM), (1, .int (nI s)), (2, .int (nI 4))]) dX8_makeStep_6 (by decide) rfl ?_
  refine V.aload_n (j := 0) rfl dX8_makeStep_7 ?_
  refine V.getr (q := m_first) dX8_makeStep_8 fX8_16 rfl rfl ?_
  refine V.iload_n (j := 1) rfl dX8_makeStep_11 ?_
  refine V.lda (v := nI a) dX8_makeStep_12 rfl (by omega) (by decide) ea ?_
  refine V.istore_n (ls' := [(0, .ref mM), (1, .int (nI s)), (2, .int (nI 4)), (3, .int (nI a))]) dX8_makeStep_13 (by decide) rfl ?_
  refine V.aload_n (j := 0) rfl dX8_makeStep_14 ?_
  refine V.getr (q := m_second) dX8_makeStep_15 fX8_19 rfl rfl ?_
  refine V.iload_n (j := 1) rfl dX8_makeStep_18 ?_
  refine V.lda (v := nI b) dX8_makeStep_19 rfl (by omega) (by decide) eb ?_
  refine V.istore (ls' := [(0, .ref mM), (1, .int (nI s)), (2, .int (nI 4)), (3, .int (nI a)), (4, .int (nI b))]) dX8_makeStep_20 (by decide) rfl ?_
  refine V.aload_n (j := 0) rfl dX8_makeStep_22 ?_
  refine V.getr (q := m_third) dX8_makeStep_23 fX8_22 rfl rfl ?_
  refine V.iload_n (j := 1) rfl dX8_makeStep_26 ?_
  refine V.lda (v := nI c) dX8_makeStep_27 rfl (by omega) (by decide) ec ?_
  refine V.istore (ls' := [(0, .ref mM), (1, .int (nI s)), (2, .int (nI 4)), (3, .int (nI a)), (4, .int (nI b)), (5, .int (nI c))]) dX8_makeStep_28 (by decide) rfl ?_
  refine V.iload_n (j := 2) rfl dX8_makeStep_30 ?_
  refine V.iconst (v := nI 1) (by decide) dX8_makeStep_31 ?_
  refine V.icmp_ne (tgt := 68) dX8_makeStep_32 (by decide) (fun _ => ?_) (fun z => absurd z (by decide))
  have hno : ¬ mz_ndl (A m_ops) (A m_first) (A m_second) (A m_classes) (A m_homes) s := fun z => by have z1 := z.1; rw [ek, nI_eq (by omega) (by omega)] at z1; omega
  have hle := mz_f2_le (op := A m_ops) (fa := A m_first) (fb := A m_second) (fc := A m_third) (cl := A m_classes) (hm := A m_homes) (s := s) (F := (0, A m_fetches, A m_into, A m_code, n))
  dsimp only at hle
  refine ml_step1 I A nv hnv s hs _ _ _ _ (mz_sw_tak0 hsw) (mz_sw_tak1 hsw) g n hg (by omega) ?_
  refine ml_step2_4 (upI I mM 25 (nI (mz_f2 (A m_ops) (A m_first) (A m_second) (A m_third) (A m_classes) (A m_homes) s (0, A m_fetches, A m_into, A m_code, n)).1)) (mz_FA A g (mz_f2 (A m_ops) (A m_first) (A m_second) (A m_third) (A m_classes) (A m_homes) s (0, A m_fetches, A m_into, A m_code, n))) s (mz_f2 (A m_ops) (A m_first) (A m_second) (A m_third) (A m_classes) (A m_homes) s (0, A m_fetches, A m_into, A m_code, n)).1 (by omega) upI_s a (by omega) b (by omega) c (by omega) g (mz_f2 (A m_ops) (A m_first) (A m_second) (A m_third) (A m_classes) (A m_homes) s (0, A m_fetches, A m_into, A m_code, n)).2.2.2.2 rfl (by omega) ?_
  refine ml_step3 _ _ nv hnv s hs (mz_sw_anew (fb := A m_second) (fc := A m_third) hsw) g ((mz_f2 (A m_ops) (A m_first) (A m_second) (A m_third) (A m_classes) (A m_homes) s (0, A m_fetches, A m_into, A m_code, n)).2.2.2.2 + 1) rfl (by omega) ?_
  refine V.rv dX8_makeStep_361 rfl ?_
  refine ⟨rfl, _, (mz_f2 (A m_ops) (A m_first) (A m_second) (A m_third) (A m_classes) (A m_homes) s (0, A m_fetches, A m_into, A m_code, n)).2.1, (mz_f2 (A m_ops) (A m_first) (A m_second) (A m_third) (A m_classes) (A m_homes) s (0, A m_fetches, A m_into, A m_code, n)).2.2.1, rfl, ?_⟩
  rw [mz_FA_2, mz_FA_2, mz_mk_f hno]
  rw [mz_mkN_4 ek (show a < 2 ^ 31 by omega) ea (show b < 2 ^ 31 by omega) eb (show c < 2 ^ 31 by omega) ec]
  rfl
set_option maxRecDepth 100000 in
set_option maxHeartbeats 4000000 in
theorem md_makeStep5 {G : am_G} (I A : Nat → Nat → Int32) (nv : Nat) (hnv : nv ≤ 24) (s : Nat) (hs : s < 60) (hsw : mz_sw nv (A m_ops s) (A m_first s) (A m_second s) (A m_third s)) (g : Nat → Int32) (n : Nat) (hg : A m_items = upd g 0 (nI n)) (hn : n < 390) (ek : A m_ops s = nI 5) (a : Nat) (ha : a < nv) (ea : A m_first s = nI a) (b : Nat) (hb : b < nv) (eb : A m_second s = nI b) : Cm G MX8_makeStep 2 48 [.ref mM, .int (nI s)] I A (fun r I' A' => r = none ∧ ∃ (z : Int32) (fe it : Nat → Int32), upI I mM 25 z = I' ∧ mz_FA A g (0, fe, it, (mz_mk (A m_ops) (A m_first) (A m_second) (A m_third) (A m_classes) (A m_homes) s (A m_fetches) (A m_into) (A m_code) n).1, (mz_mk (A m_ops) (A m_first) (A m_second) (A m_third) (A m_classes) (A m_homes) s (A m_fetches) (A m_into) (A m_code) n).2) = A') := by
  refine Cm.of (by decide) (Nat.le_of_ble_eq_true rfl) rfl ?_
  show V G MX8_makeStep (am_R 2 48 0 0) _ 0 0 0 [(0, .ref mM), (1, .int (nI s))] [] (hp I A)
  refine V.aload_n (j := 0) rfl dX8_makeStep_0 ?_
  refine V.getr (q := m_ops) dX8_makeStep_1 fX8_13 rfl rfl ?_
  refine V.iload_n (j := 1) rfl dX8_makeStep_4 ?_
  refine V.lda (v := nI 5) dX8_makeStep_5 rfl (by omega) (by decide) ek ?_
  refine V.istore_n (ls' := [(0, .ref mM), (1, .int (nI s)), (2, .int (nI 5))]) dX8_makeStep_6 (by decide) rfl ?_
  refine V.aload_n (j := 0) rfl dX8_makeStep_7 ?_
  refine V.getr (q := m_first) dX8_makeStep_8 fX8_16 rfl rfl ?_
  refine V.iload_n (j := 1) rfl dX8_makeStep_11 ?_
  refine V.lda (v := nI a) dX8_makeStep_12 rfl (by omega) (by decide) ea ?_
  refine V.istore_n (ls' := [(0, .ref mM), (1, .int (nI s)), (2, .int (nI 5)), (3, .int (nI a))]) dX8_makeStep_13 (by decide) rfl ?_
  refine V.aload_n (j := 0) rfl dX8_makeStep_14 ?_
  refine V.getr (q := m_second) dX8_makeStep_15 fX8_19 rfl rfl ?_
  refine V.iload_n (j := 1) rfl dX8_makeStep_18 ?_
  refine V.lda (v := nI b) dX8_makeStep_19 rfl (by omega) (by decide) eb ?_
  refine V.istore (ls' := [(0, .ref mM), (1, .int (nI s)), (2, .int (nI 5)), (3, .int (nI a)), (4, .int (nI b))]) dX8_makeStep_20 (by decide) rfl ?_
  refine V.aload_n (j := 0) rfl dX8_makeStep_22 ?_
  refine V.getr (q := m_third) dX8_makeStep_23 fX8_22 rfl rfl ?_
  refine V.iload_n (j := 1) rfl dX8_makeStep_26 ?_
  refine V.lda (v := A m_third s) dX8_makeStep_27 rfl (by omega) (by decide) rfl ?_
  refine V.istore (ls' := [(0, .ref mM), (1, .int (nI s)), (2, .int (nI 5)), (3, .int (nI a)), (4, .int (nI b)), (5, .int (A m_third s))]) dX8_makeStep_28 (by decide) rfl ?_
  refine V.iload_n (j := 2) rfl dX8_makeStep_30 ?_
  refine V.iconst (v := nI 1) (by decide) dX8_makeStep_31 ?_
  refine V.icmp_ne (tgt := 68) dX8_makeStep_32 (by decide) (fun _ => ?_) (fun z => absurd z (by decide))
  have hno : ¬ mz_ndl (A m_ops) (A m_first) (A m_second) (A m_classes) (A m_homes) s := fun z => by have z1 := z.1; rw [ek, nI_eq (by omega) (by omega)] at z1; omega
  have hle := mz_f2_le (op := A m_ops) (fa := A m_first) (fb := A m_second) (fc := A m_third) (cl := A m_classes) (hm := A m_homes) (s := s) (F := (0, A m_fetches, A m_into, A m_code, n))
  dsimp only at hle
  refine ml_step1 I A nv hnv s hs _ _ _ _ (mz_sw_tak0 hsw) (mz_sw_tak1 hsw) g n hg (by omega) ?_
  refine ml_step2_5 (upI I mM 25 (nI (mz_f2 (A m_ops) (A m_first) (A m_second) (A m_third) (A m_classes) (A m_homes) s (0, A m_fetches, A m_into, A m_code, n)).1)) (mz_FA A g (mz_f2 (A m_ops) (A m_first) (A m_second) (A m_third) (A m_classes) (A m_homes) s (0, A m_fetches, A m_into, A m_code, n))) s (mz_f2 (A m_ops) (A m_first) (A m_second) (A m_third) (A m_classes) (A m_homes) s (0, A m_fetches, A m_into, A m_code, n)).1 (by omega) upI_s a (by omega) b (by omega) (A m_third s) g (mz_f2 (A m_ops) (A m_first) (A m_second) (A m_third) (A m_classes) (A m_homes) s (0, A m_fetches, A m_into, A m_code, n)).2.2.2.2 rfl (by omega) ?_
  refine ml_step3 _ _ nv hnv s hs (mz_sw_anew (fb := A m_second) (fc := A m_third) hsw) g ((mz_f2 (A m_ops) (A m_first) (A m_second) (A m_third) (A m_classes) (A m_homes) s (0, A m_fetches, A m_into, A m_code, n)).2.2.2.2 + 1) rfl (by omega) ?_
  refine V.rv dX8_makeStep_361 rfl ?_
  refine ⟨rfl, _, (mz_f2 (A m_ops) (A m_first) (A m_second) (A m_third) (A m_classes) (A m_homes) s (0, A m_fetches, A m_into, A m_code, n)).2.1, (mz_f2 (A m_ops) (A m_first) (A m_second) (A m_third) (A m_classes) (A m_homes) s (0, A m_fetches, A m_into, A m_code, n)).2.2.1, rfl, ?_⟩
  rw [mz_FA_2, mz_FA_2, mz_mk_f hno]
  rw [mz_mkN_5 ek (show a < 2 ^ 31 by omega) ea (show b < 2 ^ 31 by omega) eb]
  rfl
set_option maxRecDepth 100000 in
set_option maxHeartbeats 4000000 in
theorem md_makeStep6 {G : am_G} (I A : Nat → Nat → Int32) (nv : Nat) (hnv : nv ≤ 24) (s : Nat) (hs : s < 60) (hsw : mz_sw nv (A m_ops s) (A m_first s) (A m_second s) (A m_third s)) (g : Nat → Int32) (n : Nat) (hg : A m_items = upd g 0 (nI n)) (hn : n < 390) (ek : A m_ops s = nI 6) (a : Nat) (ha : a < nv) (ea : A m_first s = nI a) (b : Nat) (hb : b < nv) (eb : A m_second s = nI b) : Cm G MX8_makeStep 2 48 [.ref mM, .int (nI s)] I A (fun r I' A' => r = none ∧ ∃ (z : Int32) (fe it : Nat → Int32), upI I mM 25 z = I' ∧ mz_FA A g (0, fe, it, (mz_mk (A m_ops) (A m_first) (A m_second) (A m_third) (A m_classes) (A m_homes) s (A m_fetches) (A m_into) (A m_code) n).1, (mz_mk (A m_ops) (A m_first) (A m_second) (A m_third) (A m_classes) (A m_homes) s (A m_fetches) (A m_into) (A m_code) n).2) = A') := by
  refine Cm.of (by decide) (Nat.le_of_ble_eq_true rfl) rfl ?_
  show V G MX8_makeStep (am_R 2 48 0 0) _ 0 0 0 [(0, .ref mM), (1, .int (nI s))] [] (hp I A)
  refine V.aload_n (j := 0) rfl dX8_makeStep_0 ?_
  refine V.getr (q := m_ops) dX8_makeStep_1 fX8_13 rfl rfl ?_
  refine V.iload_n (j := 1) rfl dX8_makeStep_4 ?_
  refine V.lda (v := nI 6) dX8_makeStep_5 rfl (by omega) (by decide) ek ?_
  refine V.istore_n (ls' := [(0, .ref mM), (1, .int (nI s)), (2, .int (nI 6))]) dX8_makeStep_6 (by decide) rfl ?_
  refine V.aload_n (j := 0) rfl dX8_makeStep_7 ?_
  refine V.getr (q := m_first) dX8_makeStep_8 fX8_16 rfl rfl ?_
  refine V.iload_n (j := 1) rfl dX8_makeStep_11 ?_
  refine V.lda (v := nI a) dX8_makeStep_12 rfl (by omega) (by decide) ea ?_
  refine V.istore_n (ls' := [(0, .ref mM), (1, .int (nI s)), (2, .int (nI 6)), (3, .int (nI a))]) dX8_makeStep_13 (by decide) rfl ?_
  refine V.aload_n (j := 0) rfl dX8_makeStep_14 ?_
  refine V.getr (q := m_second) dX8_makeStep_15 fX8_19 rfl rfl ?_
  refine V.iload_n (j := 1) rfl dX8_makeStep_18 ?_
  refine V.lda (v := nI b) dX8_makeStep_19 rfl (by omega) (by decide) eb ?_
  refine V.istore (ls' := [(0, .ref mM), (1, .int (nI s)), (2, .int (nI 6)), (3, .int (nI a)), (4, .int (nI b))]) dX8_makeStep_20 (by decide) rfl ?_
  refine V.aload_n (j := 0) rfl dX8_makeStep_22 ?_
  refine V.getr (q := m_third) dX8_makeStep_23 fX8_22 rfl rfl ?_
  refine V.iload_n (j := 1) rfl dX8_makeStep_26 ?_
  refine V.lda (v := A m_third s) dX8_makeStep_27 rfl (by omega) (by decide) rfl ?_
  refine V.istore (ls' := [(0, .ref mM), (1, .int (nI s)), (2, .int (nI 6)), (3, .int (nI a)), (4, .int (nI b)), (5, .int (A m_third s))]) dX8_makeStep_28 (by decide) rfl ?_
  refine V.iload_n (j := 2) rfl dX8_makeStep_30 ?_
  refine V.iconst (v := nI 1) (by decide) dX8_makeStep_31 ?_
  refine V.icmp_ne (tgt := 68) dX8_makeStep_32 (by decide) (fun _ => ?_) (fun z => absurd z (by decide))
  have hno : ¬ mz_ndl (A m_ops) (A m_first) (A m_second) (A m_classes) (A m_homes) s := fun z => by have z1 := z.1; rw [ek, nI_eq (by omega) (by omega)] at z1; omega
  have hle := mz_f2_le (op := A m_ops) (fa := A m_first) (fb := A m_second) (fc := A m_third) (cl := A m_classes) (hm := A m_homes) (s := s) (F := (0, A m_fetches, A m_into, A m_code, n))
  dsimp only at hle
  refine ml_step1 I A nv hnv s hs _ _ _ _ (mz_sw_tak0 hsw) (mz_sw_tak1 hsw) g n hg (by omega) ?_
  refine ml_step2_6 (upI I mM 25 (nI (mz_f2 (A m_ops) (A m_first) (A m_second) (A m_third) (A m_classes) (A m_homes) s (0, A m_fetches, A m_into, A m_code, n)).1)) (mz_FA A g (mz_f2 (A m_ops) (A m_first) (A m_second) (A m_third) (A m_classes) (A m_homes) s (0, A m_fetches, A m_into, A m_code, n))) s (mz_f2 (A m_ops) (A m_first) (A m_second) (A m_third) (A m_classes) (A m_homes) s (0, A m_fetches, A m_into, A m_code, n)).1 (by omega) upI_s a (by omega) b (by omega) (A m_third s) g (mz_f2 (A m_ops) (A m_first) (A m_second) (A m_third) (A m_classes) (A m_homes) s (0, A m_fetches, A m_into, A m_code, n)).2.2.2.2 rfl (by omega) ?_
  refine ml_step3 _ _ nv hnv s hs (mz_sw_anew (fb := A m_second) (fc := A m_third) hsw) g ((mz_f2 (A m_ops) (A m_first) (A m_second) (A m_third) (A m_classes) (A m_homes) s (0, A m_fetches, A m_into, A m_code, n)).2.2.2.2 + 1) rfl (by omega) ?_
  refine V.rv dX8_makeStep_361 rfl ?_
  refine ⟨rfl, _, (mz_f2 (A m_ops) (A m_first) (A m_second) (A m_third) (A m_classes) (A m_homes) s (0, A m_fetches, A m_into, A m_code, n)).2.1, (mz_f2 (A m_ops) (A m_first) (A m_second) (A m_third) (A m_classes) (A m_homes) s (0, A m_fetches, A m_into, A m_code, n)).2.2.1, rfl, ?_⟩
  rw [mz_FA_2, mz_FA_2, mz_mk_f hno]
  rw [mz_mkN_6 ek (show a < 2 ^ 31 by omega) ea (show b < 2 ^ 31 by omega) eb]
  rfl
set_option maxRecDepth 100000 in
set_option maxHeartbeats 4000000 in
theorem md_makeStep7 {G : am_G} (I A : Nat → Nat → Int32) (nv : Nat) (hnv : nv ≤ 24) (s : Nat) (hs : s < 60) (hsw : mz_sw nv (A m_ops s) (A m_first s) (A m_second s) (A m_third s)) (g : Nat → Int32) (n : Nat) (hg : A m_items = upd g 0 (nI n)) (hn : n < 390) (ek : A m_ops s = nI 7) (a : Nat) (ha : a < nv) (ea : A m_first s = nI a) (b : Nat) (hb : b < nv) (eb : A m_second s = nI b) : Cm G MX8_makeStep 2 48 [.ref mM, .int (nI s)] I A (fun r I' A' => r = none ∧ ∃ (z : Int32) (fe it : Nat → Int32), upI I mM 25 z = I' ∧ mz_FA A g (0, fe, it, (mz_mk (A m_ops) (A m_first) (A m_second) (A m_third) (A m_classes) (A m_homes) s (A m_fetches) (A m_into) (A m_code) n).1, (mz_mk (A m_ops) (A m_first) (A m_second) (A m_third) (A m_classes) (A m_homes) s (A m_fetches) (A m_into) (A m_code) n).2) = A') := by
  refine Cm.of (by decide) (Nat.le_of_ble_eq_true rfl) rfl ?_
  show V G MX8_makeStep (am_R 2 48 0 0) _ 0 0 0 [(0, .ref mM), (1, .int (nI s))] [] (hp I A)
  refine V.aload_n (j := 0) rfl dX8_makeStep_0 ?_
  refine V.getr (q := m_ops) dX8_makeStep_1 fX8_13 rfl rfl ?_
  refine V.iload_n (j := 1) rfl dX8_makeStep_4 ?_
  refine V.lda (v := nI 7) dX8_makeStep_5 rfl (by omega) (by decide) ek ?_
  refine V.istore_n (ls' := [(0, .ref mM), (1, .int (nI s)), (2, .int (nI 7))]) dX8_makeStep_6 (by decide) rfl ?_
  refine V.aload_n (j := 0) rfl dX8_makeStep_7 ?_
  refine V.getr (q := m_first) dX8_makeStep_8 fX8_16 rfl rfl ?_
  refine V.iload_n (j := 1) rfl dX8_makeStep_11 ?_
  refine V.lda (v := nI a) dX8_makeStep_12 rfl (by omega) (by decide) ea ?_
  refine V.istore_n (ls' := [(0, .ref mM), (1, .int (nI s)), (2, .int (nI 7)), (3, .int (nI a))]) dX8_makeStep_13 (by decide) rfl ?_
  refine V.aload_n (j := 0) rfl dX8_makeStep_14 ?_
  refine V.getr (q := m_second) dX8_makeStep_15 fX8_19 rfl rfl ?_
  refine V.iload_n (j := 1) rfl dX8_makeStep_18 ?_
  refine V.lda (v := nI b) dX8_makeStep_19 rfl (by omega) (by decide) eb ?_
  refine V.istore (ls' := [(0, .ref mM), (1, .int (nI s)), (2, .int (nI 7)), (3, .int (nI a)), (4, .int (nI b))]) dX8_makeStep_20 (by decide) rfl ?_
  refine V.aload_n (j := 0) rfl dX8_makeStep_22 ?_
  refine V.getr (q := m_third) dX8_makeStep_23 fX8_22 rfl rfl ?_
  refine V.iload_n (j := 1) rfl dX8_makeStep_26 ?_
  refine V.lda (v := A m_third s) dX8_makeStep_27 rfl (by omega) (by decide) rfl ?_
  refine V.istore (ls' := [(0, .ref mM), (1, .int (nI s)), (2, .int (nI 7)), (3, .int (nI a)), (4, .int (nI b)), (5, .int (A m_third s))]) dX8_makeStep_28 (by decide) rfl ?_
  refine V.iload_n (j := 2) rfl dX8_makeStep_30 ?_
  refine V.iconst (v := nI 1) (by decide) dX8_makeStep_31 ?_
  refine V.icmp_ne (tgt := 68) dX8_makeStep_32 (by decide) (fun _ => ?_) (fun z => absurd z (by decide))
  have hno : ¬ mz_ndl (A m_ops) (A m_first) (A m_second) (A m_classes) (A m_homes) s := fun z => by have z1 := z.1; rw [ek, nI_eq (by omega) (by omega)] at z1; omega
  have hle := mz_f2_le (op := A m_ops) (fa := A m_first) (fb := A m_second) (fc := A m_third) (cl := A m_classes) (hm := A m_homes) (s := s) (F := (0, A m_fetches, A m_into, A m_code, n))
  dsimp only at hle
  refine ml_step1 I A nv hnv s hs _ _ _ _ (mz_sw_tak0 hsw) (mz_sw_tak1 hsw) g n hg (by omega) ?_
  refine ml_step2_7 (upI I mM 25 (nI (mz_f2 (A m_ops) (A m_first) (A m_second) (A m_third) (A m_classes) (A m_homes) s (0, A m_fetches, A m_into, A m_code, n)).1)) (mz_FA A g (mz_f2 (A m_ops) (A m_first) (A m_second) (A m_third) (A m_classes) (A m_homes) s (0, A m_fetches, A m_into, A m_code, n))) s (mz_f2 (A m_ops) (A m_first) (A m_second) (A m_third) (A m_classes) (A m_homes) s (0, A m_fetches, A m_into, A m_code, n)).1 (by omega) upI_s a (by omega) b (by omega) (A m_third s) g (mz_f2 (A m_ops) (A m_first) (A m_second) (A m_third) (A m_classes) (A m_homes) s (0, A m_fetches, A m_into, A m_code, n)).2.2.2.2 rfl (by omega) ?_
  refine ml_step3 _ _ nv hnv s hs (mz_sw_anew (fb := A m_second) (fc := A m_third) hsw) g ((mz_f2 (A m_ops) (A m_first) (A m_second) (A m_third) (A m_classes) (A m_homes) s (0, A m_fetches, A m_into, A m_code, n)).2.2.2.2 + 1) rfl (by omega) ?_
  refine V.rv dX8_makeStep_361 rfl ?_
  refine ⟨rfl, _, (mz_f2 (A m_ops) (A m_first) (A m_second) (A m_third) (A m_classes) (A m_homes) s (0, A m_fetches, A m_into, A m_code, n)).2.1, (mz_f2 (A m_ops) (A m_first) (A m_second) (A m_third) (A m_classes) (A m_homes) s (0, A m_fetches, A m_into, A m_code, n)).2.2.1, rfl, ?_⟩
  rw [mz_FA_2, mz_FA_2, mz_mk_f hno]
  rw [mz_mkN_7 ek (show a < 2 ^ 31 by omega) ea (show b < 2 ^ 31 by omega) eb]
  rfl
set_option maxRecDepth 100000 in
set_option maxHeartbeats 4000000 in
theorem md_makeStep8 {G : am_G} (I A : Nat → Nat → Int32) (nv : Nat) (hnv : nv ≤ 24) (s : Nat) (hs : s < 60) (hsw : mz_sw nv (A m_ops s) (A m_first s) (A m_second s) (A m_third s)) (g : Nat → Int32) (n : Nat) (hg : A m_items = upd g 0 (nI n)) (hn : n < 390) (ek : A m_ops s = nI 8)  : Cm G MX8_makeStep 2 48 [.ref mM, .int (nI s)] I A (fun r I' A' => r = none ∧ ∃ (z : Int32) (fe it : Nat → Int32), upI I mM 25 z = I' ∧ mz_FA A g (0, fe, it, (mz_mk (A m_ops) (A m_first) (A m_second) (A m_third) (A m_classes) (A m_homes) s (A m_fetches) (A m_into) (A m_code) n).1, (mz_mk (A m_ops) (A m_first) (A m_second) (A m_third) (A m_classes) (A m_homes) s (A m_fetches) (A m_into) (A m_code) n).2) = A') := by
  refine Cm.of (by decide) (Nat.le_of_ble_eq_true rfl) rfl ?_
  show V G MX8_makeStep (am_R 2 48 0 0) _ 0 0 0 [(0, .ref mM), (1, .int (nI s))] [] (hp I A)
  refine V.aload_n (j := 0) rfl dX8_makeStep_0 ?_
  refine V.getr (q := m_ops) dX8_makeStep_1 fX8_13 rfl rfl ?_
  refine V.iload_n (j := 1) rfl dX8_makeStep_4 ?_
  refine V.lda (v := nI 8) dX8_makeStep_5 rfl (by omega) (by decide) ek ?_
  refine V.istore_n (ls' := [(0, .ref mM), (1, .int (nI s)), (2, .int (nI 8))]) dX8_makeStep_6 (by decide) rfl ?_
  refine V.aload_n (j := 0) rfl dX8_makeStep_7 ?_
  refine V.getr (q := m_first) dX8_makeStep_8 fX8_16 rfl rfl ?_
  refine V.iload_n (j := 1) rfl dX8_makeStep_11 ?_
  refine V.lda (v := A m_first s) dX8_makeStep_12 rfl (by omega) (by decide) rfl ?_
  refine V.istore_n (ls' := [(0, .ref mM), (1, .int (nI s)), (2, .int (nI 8)), (3, .int (A m_first s))]) dX8_makeStep_13 (by decide) rfl ?_
  refine V.aload_n (j := 0) rfl dX8_makeStep_14 ?_
  refine V.getr (q := m_second) dX8_makeStep_15 fX8_19 rfl rfl ?_
  refine V.iload_n (j := 1) rfl dX8_makeStep_18 ?_
  refine V.lda (v := A m_second s) dX8_makeStep_19 rfl (by omega) (by decide) rfl ?_
  refine V.istore (ls' := [(0, .ref mM), (1, .int (nI s)), (2, .int (nI 8)), (3, .int (A m_first s)), (4, .int (A m_second s))]) dX8_makeStep_20 (by decide) rfl ?_
  refine V.aload_n (j := 0) rfl dX8_makeStep_22 ?_
  refine V.getr (q := m_third) dX8_makeStep_23 fX8_22 rfl rfl ?_
  refine V.iload_n (j := 1) rfl dX8_makeStep_26 ?_
  refine V.lda (v := A m_third s) dX8_makeStep_27 rfl (by omega) (by decide) rfl ?_
  refine V.istore (ls' := [(0, .ref mM), (1, .int (nI s)), (2, .int (nI 8)), (3, .int (A m_first s)), (4, .int (A m_second s)), (5, .int (A m_third s))]) dX8_makeStep_28 (by decide) rfl ?_
  refine V.iload_n (j := 2) rfl dX8_makeStep_30 ?_
  refine V.iconst (v := nI 1) (by decide) dX8_makeStep_31 ?_
  refine V.icmp_ne (tgt := 68) dX8_makeStep_32 (by decide) (fun _ => ?_) (fun z => absurd z (by decide))
  have hno : ¬ mz_ndl (A m_ops) (A m_first) (A m_second) (A m_classes) (A m_homes) s := fun z => by have z1 := z.1; rw [ek, nI_eq (by omega) (by omega)] at z1; omega
  have hle := mz_f2_le (op := A m_ops) (fa := A m_first) (fb := A m_second) (fc := A m_third) (cl := A m_classes) (hm := A m_homes) (s := s) (F := (0, A m_fetches, A m_into, A m_code, n))
  dsimp only at hle
  refine ml_step1 I A nv hnv s hs _ _ _ _ (mz_sw_tak0 hsw) (mz_sw_tak1 hsw) g n hg (by omega) ?_
  refine ml_step2_8 (upI I mM 25 (nI (mz_f2 (A m_ops) (A m_first) (A m_second) (A m_third) (A m_classes) (A m_homes) s (0, A m_fetches, A m_into, A m_code, n)).1)) (mz_FA A g (mz_f2 (A m_ops) (A m_first) (A m_second) (A m_third) (A m_classes) (A m_homes) s (0, A m_fetches, A m_into, A m_code, n))) s (mz_f2 (A m_ops) (A m_first) (A m_second) (A m_third) (A m_classes) (A m_homes) s (0, A m_fetches, A m_into, A m_code, n)).1 (by omega) upI_s (A m_first s) (A m_second s) (A m_third s) g (mz_f2 (A m_ops) (A m_first) (A m_second) (A m_third) (A m_classes) (A m_homes) s (0, A m_fetches, A m_into, A m_code, n)).2.2.2.2 rfl (by omega) ?_
  refine ml_step3 _ _ nv hnv s hs (mz_sw_anew (fb := A m_second) (fc := A m_third) hsw) g ((mz_f2 (A m_ops) (A m_first) (A m_second) (A m_third) (A m_classes) (A m_homes) s (0, A m_fetches, A m_into, A m_code, n)).2.2.2.2 + 1) rfl (by omega) ?_
  refine V.rv dX8_makeStep_361 rfl ?_
  refine ⟨rfl, _, (mz_f2 (A m_ops) (A m_first) (A m_second) (A m_third) (A m_classes) (A m_homes) s (0, A m_fetches, A m_into, A m_code, n)).2.1, (mz_f2 (A m_ops) (A m_first) (A m_second) (A m_third) (A m_classes) (A m_homes) s (0, A m_fetches, A m_into, A m_code, n)).2.2.1, rfl, ?_⟩
  rw [mz_FA_2, mz_FA_2, mz_mk_f hno]
  rw [mz_mkN_8 ek]
  rfl
set_option maxRecDepth 100000 in
set_option maxHeartbeats 4000000 in
theorem md_makeStep9 {G : am_G} (I A : Nat → Nat → Int32) (nv : Nat) (hnv : nv ≤ 24) (s : Nat) (hs : s < 60) (hsw : mz_sw nv (A m_ops s) (A m_first s) (A m_second s) (A m_third s)) (g : Nat → Int32) (n : Nat) (hg : A m_items = upd g 0 (nI n)) (hn : n < 390) (ek : A m_ops s = nI 9) (a : Nat) (ha : a < nv) (ea : A m_first s = nI a) : Cm G MX8_makeStep 2 48 [.ref mM, .int (nI s)] I A (fun r I' A' => r = none ∧ ∃ (z : Int32) (fe it : Nat → Int32), upI I mM 25 z = I' ∧ mz_FA A g (0, fe, it, (mz_mk (A m_ops) (A m_first) (A m_second) (A m_third) (A m_classes) (A m_homes) s (A m_fetches) (A m_into) (A m_code) n).1, (mz_mk (A m_ops) (A m_first) (A m_second) (A m_third) (A m_classes) (A m_homes) s (A m_fetches) (A m_into) (A m_code) n).2) = A') := by
  refine Cm.of (by decide) (Nat.le_of_ble_eq_true rfl) rfl ?_
  show V G MX8_makeStep (am_R 2 48 0 0) _ 0 0 0 [(0, .ref mM), (1, .int (nI s))] [] (hp I A)
  refine V.aload_n (j := 0) rfl dX8_makeStep_0 ?_
  refine V.getr (q := m_ops) dX8_makeStep_1 fX8_13 rfl rfl ?_
  refine V.iload_n (j := 1) rfl dX8_makeStep_4 ?_
  refine V.lda (v := nI 9) dX8_makeStep_5 rfl (by omega) (by decide) ek ?_
  refine V.istore_n (ls' := [(0, .ref mM), (1, .int (nI s)), (2, .int (nI 9))]) dX8_makeStep_6 (by decide) rfl ?_
  refine V.aload_n (j := 0) rfl dX8_makeStep_7 ?_
  refine V.getr (q := m_first) dX8_makeStep_8 fX8_16 rfl rfl ?_
  refine V.iload_n (j := 1) rfl dX8_makeStep_11 ?_
  refine V.lda (v := nI a) dX8_makeStep_12 rfl (by omega) (by decide) ea ?_
  refine V.istore_n (ls' := [(0, .ref mM), (1, .int (nI s)), (2, .int (nI 9)), (3, .int (nI a))]) dX8_makeStep_13 (by decide) rfl ?_
  refine V.aload_n (j := 0) rfl dX8_makeStep_14 ?_
  refine V.getr (q := m_second) dX8_makeStep_15 fX8_19 rfl rfl ?_
  refine V.iload_n (j := 1) rfl dX8_makeStep_18 ?_
  refine V.lda (v := A m_second s) dX8_makeStep_19 rfl (by omega) (by decide) rfl ?_
  refine V.istore (ls' := [(0, .ref mM), (1, .int (nI s)), (2, .int (nI 9)), (3, .int (nI a)), (4, .int (A m_second s))]) dX8_makeStep_20 (by decide) rfl ?_
  refine V.aload_n (j := 0) rfl dX8_makeStep_22 ?_
  refine V.getr (q := m_third) dX8_makeStep_23 fX8_22 rfl rfl ?_
  refine V.iload_n (j := 1) rfl dX8_makeStep_26 ?_
  refine V.lda (v := A m_third s) dX8_makeStep_27 rfl (by omega) (by decide) rfl ?_
  refine V.istore (ls' := [(0, .ref mM), (1, .int (nI s)), (2, .int (nI 9)), (3, .int (nI a)), (4, .int (A m_second s)), (5, .int (A m_third s))]) dX8_makeStep_28 (by decide) rfl ?_
  refine V.iload_n (j := 2) rfl dX8_makeStep_30 ?_
  refine V.iconst (v := nI 1) (by decide) dX8_makeStep_31 ?_
  refine V.icmp_ne (tgt := 68) dX8_makeStep_32 (by decide) (fun _ => ?_) (fun z => absurd z (by decide))
  have hno : ¬ mz_ndl (A m_ops) (A m_first) (A m_second) (A m_classes) (A m_homes) s := fun z => by have z1 := z.1; rw [ek, nI_eq (by omega) (by omega)] at z1; omega
  have hle := mz_f2_le (op := A m_ops) (fa := A m_first) (fb := A m_second) (fc := A m_third) (cl := A m_classes) (hm := A m_homes) (s := s) (F := (0, A m_fetches, A m_into, A m_code, n))
  dsimp only at hle
  refine ml_step1 I A nv hnv s hs _ _ _ _ (mz_sw_tak0 hsw) (mz_sw_tak1 hsw) g n hg (by omega) ?_
  refine ml_step2_9 (upI I mM 25 (nI (mz_f2 (A m_ops) (A m_first) (A m_second) (A m_third) (A m_classes) (A m_homes) s (0, A m_fetches, A m_into, A m_code, n)).1)) (mz_FA A g (mz_f2 (A m_ops) (A m_first) (A m_second) (A m_third) (A m_classes) (A m_homes) s (0, A m_fetches, A m_into, A m_code, n))) s (mz_f2 (A m_ops) (A m_first) (A m_second) (A m_third) (A m_classes) (A m_homes) s (0, A m_fetches, A m_into, A m_code, n)).1 (by omega) upI_s a (by omega) (A m_second s) (A m_third s) g (mz_f2 (A m_ops) (A m_first) (A m_second) (A m_third) (A m_classes) (A m_homes) s (0, A m_fetches, A m_into, A m_code, n)).2.2.2.2 rfl (by omega) ?_
  refine ml_step3 _ _ nv hnv s hs (mz_sw_anew (fb := A m_second) (fc := A m_third) hsw) g ((mz_f2 (A m_ops) (A m_first) (A m_second) (A m_third) (A m_classes) (A m_homes) s (0, A m_fetches, A m_into, A m_code, n)).2.2.2.2 + 1) rfl (by omega) ?_
  refine V.rv dX8_makeStep_361 rfl ?_
  refine ⟨rfl, _, (mz_f2 (A m_ops) (A m_first) (A m_second) (A m_third) (A m_classes) (A m_homes) s (0, A m_fetches, A m_into, A m_code, n)).2.1, (mz_f2 (A m_ops) (A m_first) (A m_second) (A m_third) (A m_classes) (A m_homes) s (0, A m_fetches, A m_into, A m_code, n)).2.2.1, rfl, ?_⟩
  rw [mz_FA_2, mz_FA_2, mz_mk_f hno]
  rw [mz_mkN_9 ek (show a < 2 ^ 31 by omega) ea]
  rfl
set_option maxRecDepth 100000 in
set_option maxHeartbeats 4000000 in
theorem md_makeStep10 {G : am_G} (I A : Nat → Nat → Int32) (nv : Nat) (hnv : nv ≤ 24) (s : Nat) (hs : s < 60) (hsw : mz_sw nv (A m_ops s) (A m_first s) (A m_second s) (A m_third s)) (g : Nat → Int32) (n : Nat) (hg : A m_items = upd g 0 (nI n)) (hn : n < 390) (ek : A m_ops s = nI 10)  : Cm G MX8_makeStep 2 48 [.ref mM, .int (nI s)] I A (fun r I' A' => r = none ∧ ∃ (z : Int32) (fe it : Nat → Int32), upI I mM 25 z = I' ∧ mz_FA A g (0, fe, it, (mz_mk (A m_ops) (A m_first) (A m_second) (A m_third) (A m_classes) (A m_homes) s (A m_fetches) (A m_into) (A m_code) n).1, (mz_mk (A m_ops) (A m_first) (A m_second) (A m_third) (A m_classes) (A m_homes) s (A m_fetches) (A m_into) (A m_code) n).2) = A') := by
  refine Cm.of (by decide) (Nat.le_of_ble_eq_true rfl) rfl ?_
  show V G MX8_makeStep (am_R 2 48 0 0) _ 0 0 0 [(0, .ref mM), (1, .int (nI s))] [] (hp I A)
  refine V.aload_n (j := 0) rfl dX8_makeStep_0 ?_
  refine V.getr (q := m_ops) dX8_makeStep_1 fX8_13 rfl rfl ?_
  refine V.iload_n (j := 1) rfl dX8_makeStep_4 ?_
  refine V.lda (v := nI 10) dX8_makeStep_5 rfl (by omega) (by decide) ek ?_
  refine V.istore_n (ls' := [(0, .ref mM), (1, .int (nI s)), (2, .int (nI 10))]) dX8_makeStep_6 (by decide) rfl ?_
  refine V.aload_n (j := 0) rfl dX8_makeStep_7 ?_
  refine V.getr (q := m_first) dX8_makeStep_8 fX8_16 rfl rfl ?_
  refine V.iload_n (j := 1) rfl dX8_makeStep_11 ?_
  refine V.lda (v := A m_first s) dX8_makeStep_12 rfl (by omega) (by decide) rfl ?_
  refine V.istore_n (ls' := [(0, .ref mM), (1, .int (nI s)), (2, .int (nI 10)), (3, .int (A m_first s))]) dX8_makeStep_13 (by decide) rfl ?_
  refine V.aload_n (j := 0) rfl dX8_makeStep_14 ?_
  refine V.getr (q := m_second) dX8_makeStep_15 fX8_19 rfl rfl ?_
  refine V.iload_n (j := 1) rfl dX8_makeStep_18 ?_
  refine V.lda (v := A m_second s) dX8_makeStep_19 rfl (by omega) (by decide) rfl ?_
  refine V.istore (ls' := [(0, .ref mM), (1, .int (nI s)), (2, .int (nI 10)), (3, .int (A m_first s)), (4, .int (A m_second s))]) dX8_makeStep_20 (by decide) rfl ?_
  refine V.aload_n (j := 0) rfl dX8_makeStep_22 ?_
  refine V.getr (q := m_third) dX8_makeStep_23 fX8_22 rfl rfl ?_
  refine V.iload_n (j := 1) rfl dX8_makeStep_26 ?_
  refine V.lda (v := A m_third s) dX8_makeStep_27 rfl (by omega) (by decide) rfl ?_
  refine V.istore (ls' := [(0, .ref mM), (1, .int (nI s)), (2, .int (nI 10)), (3, .int (A m_first s)), (4, .int (A m_second s)), (5, .int (A m_third s))]) dX8_makeStep_28 (by decide) rfl ?_
  refine V.iload_n (j := 2) rfl dX8_makeStep_30 ?_
  refine V.iconst (v := nI 1) (by decide) dX8_makeStep_31 ?_
  refine V.icmp_ne (tgt := 68) dX8_makeStep_32 (by decide) (fun _ => ?_) (fun z => absurd z (by decide))
  have hno : ¬ mz_ndl (A m_ops) (A m_first) (A m_second) (A m_classes) (A m_homes) s := fun z => by have z1 := z.1; rw [ek, nI_eq (by omega) (by omega)] at z1; omega
  have hle := mz_f2_le (op := A m_ops) (fa := A m_first) (fb := A m_second) (fc := A m_third) (cl := A m_classes) (hm := A m_homes) (s := s) (F := (0, A m_fetches, A m_into, A m_code, n))
  dsimp only at hle
  refine ml_step1 I A nv hnv s hs _ _ _ _ (mz_sw_tak0 hsw) (mz_sw_tak1 hsw) g n hg (by omega) ?_
  refine ml_step2_10 (upI I mM 25 (nI (mz_f2 (A m_ops) (A m_first) (A m_second) (A m_third) (A m_classes) (A m_homes) s (0, A m_fetches, A m_into, A m_code, n)).1)) (mz_FA A g (mz_f2 (A m_ops) (A m_first) (A m_second) (A m_third) (A m_classes) (A m_homes) s (0, A m_fetches, A m_into, A m_code, n))) s (mz_f2 (A m_ops) (A m_first) (A m_second) (A m_third) (A m_classes) (A m_homes) s (0, A m_fetches, A m_into, A m_code, n)).1 (by omega) upI_s (A m_first s) (A m_second s) (A m_third s) g (mz_f2 (A m_ops) (A m_first) (A m_second) (A m_third) (A m_classes) (A m_homes) s (0, A m_fetches, A m_into, A m_code, n)).2.2.2.2 rfl (by omega) ?_
  refine ml_step3 _ _ nv hnv s hs (mz_sw_anew (fb := A m_second) (fc := A m_third) hsw) g ((mz_f2 (A m_ops) (A m_first) (A m_second) (A m_third) (A m_classes) (A m_homes) s (0, A m_fetches, A m_into, A m_code, n)).2.2.2.2 + 1) rfl (by omega) ?_
  refine V.rv dX8_makeStep_361 rfl ?_
  refine ⟨rfl, _, (mz_f2 (A m_ops) (A m_first) (A m_second) (A m_third) (A m_classes) (A m_homes) s (0, A m_fetches, A m_into, A m_code, n)).2.1, (mz_f2 (A m_ops) (A m_first) (A m_second) (A m_third) (A m_classes) (A m_homes) s (0, A m_fetches, A m_into, A m_code, n)).2.2.1, rfl, ?_⟩
  rw [mz_FA_2, mz_FA_2, mz_mk_f hno]
  rw [mz_mkN_10 ek]
  rfl
theorem md_makeStep {G : am_G} (I A : Nat → Nat → Int32) (nv : Nat) (hnv : nv ≤ 24) (s : Nat) (hs : s < 60) (hsw : mz_sw nv (A m_ops s) (A m_first s) (A m_second s) (A m_third s)) (g : Nat → Int32) (n : Nat) (hg : A m_items = upd g 0 (nI n)) (hn : n < 390) : Cm G MX8_makeStep 2 48 [.ref mM, .int (nI s)] I A (fun r I' A' => r = none ∧ ∃ (z : Int32) (fe it : Nat → Int32), upI I mM 25 z = I' ∧ mz_FA A g (0, fe, it, (mz_mk (A m_ops) (A m_first) (A m_second) (A m_third) (A m_classes) (A m_homes) s (A m_fetches) (A m_into) (A m_code) n).1, (mz_mk (A m_ops) (A m_first) (A m_second) (A m_third) (A m_classes) (A m_homes) s (A m_fetches) (A m_into) (A m_code) n).2) = A') := by
  obtain ⟨k, h1, ek, h3, h4, h5, -⟩ := id hsw
  rcases (show k = 0 ∨ k = 1 ∨ k = 2 ∨ k = 3 ∨ k = 4 ∨ k = 5 ∨ k = 6 ∨ k = 7 ∨ k = 8 ∨ k = 9 ∨ k = 10 by omega) with rfl | rfl | rfl | rfl | rfl | rfl | rfl | rfl | rfl | rfl | rfl
  · obtain ⟨a, ha, ea⟩ := h3 (by omega)
    exact md_makeStep0 I A nv hnv s hs hsw g n hg hn ek a ha ea
  · obtain ⟨a, ha, ea⟩ := h3 (by omega)
    obtain ⟨b, hb, eb⟩ := h4 (by omega)
    exact md_makeStep1 I A nv hnv s hs hsw g n hg hn ek a ha ea b hb eb
  · obtain ⟨a, ha, ea⟩ := h3 (by omega)
    obtain ⟨b, hb, eb⟩ := h4 (by omega)
    obtain ⟨c, hc, ec⟩ := h5 (by omega)
    exact md_makeStep2 I A nv hnv s hs hsw g n hg hn ek a ha ea b hb eb c hc ec
  · obtain ⟨a, ha, ea⟩ := h3 (by omega)
    obtain ⟨b, hb, eb⟩ := h4 (by omega)
    obtain ⟨c, hc, ec⟩ := h5 (by omega)
    exact md_makeStep3 I A nv hnv s hs hsw g n hg hn ek a ha ea b hb eb c hc ec
  · obtain ⟨a, ha, ea⟩ := h3 (by omega)
    obtain ⟨b, hb, eb⟩ := h4 (by omega)
    obtain ⟨c, hc, ec⟩ := h5 (by omega)
    exact md_makeStep4 I A nv hnv s hs hsw g n hg hn ek a ha ea b hb eb c hc ec
  · obtain ⟨a, ha, ea⟩ := h3 (by omega)
    obtain ⟨b, hb, eb⟩ := h4 (by omega)
    exact md_makeStep5 I A nv hnv s hs hsw g n hg hn ek a ha ea b hb eb
  · obtain ⟨a, ha, ea⟩ := h3 (by omega)
    obtain ⟨b, hb, eb⟩ := h4 (by omega)
    exact md_makeStep6 I A nv hnv s hs hsw g n hg hn ek a ha ea b hb eb
  · obtain ⟨a, ha, ea⟩ := h3 (by omega)
    obtain ⟨b, hb, eb⟩ := h4 (by omega)
    exact md_makeStep7 I A nv hnv s hs hsw g n hg hn ek a ha ea b hb eb
  · exact md_makeStep8 I A nv hnv s hs hsw g n hg hn ek 
  · obtain ⟨a, ha, ea⟩ := h3 (by omega)
    exact md_makeStep9 I A nv hnv s hs hsw g n hg hn ek a ha ea
  · exact md_makeStep10 I A nv hnv s hs hsw g n hg hn ek 
end
section
/-- where item i of the tidied code leads -/
def mz_leads (c : Nat → Int32) (i : Nat) : Int32 := if c (1600 + 4 * i) = nI 7 then c (1600 + 4 * i + 3) else if c (1600 + 4 * i) = nI 8 then c (1600 + 4 * i + 1) else (-1)
def mz_led (c : Nat → Int32) (n k : Nat) : Prop := ∃ t, t < n ∧ mz_leads c t = nI k
def mz_P1 (c : Nat → Int32) (i : Nat) : Prop := c (1600 + 4 * i) = nI 8 ∧ mz_leads c i = nI (i + 1)
def mz_AG (c : Nat → Int32) (i : Nat) : Prop := c (1600 + 4 * i) = nI 11 ∧ c (1600 + 4 * i - 4) = nI 12 ∧ c (1600 + 4 * i + 1) = c (1600 + 4 * i - 3) ∧ c (1600 + 4 * i + 2) = c (1600 + 4 * i - 2)
def mz_P2 (c : Nat → Int32) (n i : Nat) : Prop := (mz_AG c i ∨ c (1600 + 4 * i - 4) = nI 8 ∨ c (1600 + 4 * i - 4) = nI 10) ∧ ¬ mz_led c n i
/-- item i is needless -/
def mz_gone (c : Nat → Int32) (n i : Nat) : Prop := mz_P1 c i ∨ (0 < i ∧ mz_P2 c n i)
set_option maxRecDepth 100000 in
set_option maxHeartbeats 4000000 in
theorem md_leads {G : am_G} (I A : Nat → Nat → Int32) (i : Nat) (hi : i < 400) : Cm G MX8_leads 0 0 [.ref mM, .int (nI i)] I A (fun r I' A' => r = some (.int (mz_leads (A m_code) i)) ∧ I = I' ∧ A = A') := by
  refine Cm.of (by decide) (Nat.le_of_ble_eq_true rfl) rfl ?_
  show V G MX8_leads (am_R 0 0 0 0) _ 0 0 0 [(0, .ref mM), (1, .int (nI i))] [] (hp I A)
  refine V.aload_n (j := 0) rfl dX8_leads_0 ?_
  refine V.getr (q := m_code) dX8_leads_1 fX8_49 rfl rfl ?_
  refine V.sipush (v := nI 1600) (by decide) dX8_leads_4 ?_
  refine V.iconst (v := nI 4) (by decide) dX8_leads_7 ?_
  refine V.iload_n (j := 1) rfl dX8_leads_8 ?_
  refine V.imulN dX8_leads_9 ?_
  refine V.iaddN dX8_leads_10 ?_
  refine V.lda (v := A m_code (1600 + (4 * i))) dX8_leads_11 rfl (by omega) (by decide) rfl ?_
  refine V.istore_n (ls' := [(0, .ref mM), (1, .int (nI i)), (2, .int (A m_code (1600 + (4 * i))))]) dX8_leads_12 (by decide) rfl ?_
  refine V.iload_n (j := 2) rfl dX8_leads_13 ?_
  refine V.bipush (v := nI 7) (by decide) dX8_leads_14 ?_
  refine V.icmp_ne (tgt := 36) dX8_leads_16 (by decide) (fun c1 => ?_) (fun c1 => ?_)
  · refine V.iload_n (j := 2) rfl dX8_leads_36 ?_
    refine V.bipush (v := nI 8) (by decide) dX8_leads_37 ?_
    refine V.icmp_ne (tgt := 59) dX8_leads_39 (by decide) (fun c2 => ?_) (fun c2 => ?_)
    · refine V.iconst (v := (-1)) (by decide) dX8_leads_59 ?_
      refine V.ri dX8_leads_60 rfl ?_
      exact ⟨by unfold mz_leads; (repeat' split) <;> first | rfl | contradiction | simp_all, rfl, rfl⟩
    · refine V.aload_n (j := 0) rfl dX8_leads_42 ?_
      refine V.getr (q := m_code) dX8_leads_43 fX8_49 rfl rfl ?_
      refine V.sipush (v := nI 1600) (by decide) dX8_leads_46 ?_
      refine V.iconst (v := nI 4) (by decide) dX8_leads_49 ?_
      refine V.iload_n (j := 1) rfl dX8_leads_50 ?_
      refine V.imulN dX8_leads_51 ?_
      refine V.iaddN dX8_leads_52 ?_
      refine V.iconst (v := nI 1) (by decide) dX8_leads_53 ?_
      refine V.iaddN dX8_leads_54 ?_
      refine V.lda (v := A m_code ((1600 + (4 * i)) + 1)) dX8_leads_55 rfl (by omega) (by decide) rfl ?_
      refine V.goto (tgt := 60) dX8_leads_56 (by decide) ?_
      refine V.ri dX8_leads_60 rfl ?_
      exact ⟨by unfold mz_leads; (repeat' split) <;> first | rfl | contradiction | simp_all, rfl, rfl⟩
  · refine V.aload_n (j := 0) rfl dX8_leads_19 ?_
    refine V.getr (q := m_code) dX8_leads_20 fX8_49 rfl rfl ?_
    refine V.sipush (v := nI 1600) (by decide) dX8_leads_23 ?_
    refine V.iconst (v := nI 4) (by decide) dX8_leads_26 ?_
    refine V.iload_n (j := 1) rfl dX8_leads_27 ?_
    refine V.imulN dX8_leads_28 ?_
    refine V.iaddN dX8_leads_29 ?_
    refine V.iconst (v := nI 3) (by decide) dX8_leads_30 ?_
    refine V.iaddN dX8_leads_31 ?_
    refine V.lda (v := A m_code ((1600 + (4 * i)) + 3)) dX8_leads_32 rfl (by omega) (by decide) rfl ?_
    refine V.goto (tgt := 60) dX8_leads_33 (by decide) ?_
    refine V.ri dX8_leads_60 rfl ?_
    exact ⟨by unfold mz_leads; (repeat' split) <;> first | rfl | contradiction | simp_all, rfl, rfl⟩
set_option maxRecDepth 100000 in
set_option maxHeartbeats 4000000 in
theorem ml_isLedTo {G : am_G} {Fn : Array Value → State → List Frame → State → Prop} (I A : Nat → Nat → Int32) (n : Nat) (hn : A m_items 1 = nI n) (hn4 : n < 400) (k : Nat) : ∀ (m : Nat) (i : Nat), i + m = n → V G MX8_isLedTo (am_R 1 22 0 0) Fn 0 0 39 [(0, .ref mM), (1, .int (nI k)), (2, .int (bI (∃ t, t < n ∧ mz_leads (A m_code) t = nI k)))] [] (hp I A) → V G MX8_isLedTo (am_R 1 22 0 0) Fn 0 0 4 [(0, .ref mM), (1, .int (nI k)), (2, .int (bI (∃ t, t < i ∧ mz_leads (A m_code) t = nI k))), (3, .int (nI i))] [] (hp I A) := by
  intro m
  induction m with
  | zero =>
    intro i hi0 hk
    obtain rfl : n = i := by omega
    refine V.iload_n (j := 3) rfl dX8_isLedTo_4 ?_
    refine V.aload_n (j := 0) rfl dX8_isLedTo_5 ?_
    refine V.getr (q := m_items) dX8_isLedTo_6 fX8_52 rfl rfl ?_
    refine V.iconst (v := nI 1) (by decide) dX8_isLedTo_9 ?_
    refine V.lda (v := nI n) dX8_isLedTo_10 rfl (by decide) (by decide) hn ?_
    refine V.icmp_geN (tgt := 39) dX8_isLedTo_11 (by decide) (by omega) (by omega) (fun c1 => ?_) (fun c1 => ?_)
    · refine V.fewer [0, 1, 2] rfl ?_
      exact hk
    · exact absurd c1 (by omega)
  | succ m ih =>
    intro i hi0 hk
    refine V.iload_n (j := 3) rfl dX8_isLedTo_4 ?_
    refine V.aload_n (j := 0) rfl dX8_isLedTo_5 ?_
    refine V.getr (q := m_items) dX8_isLedTo_6 fX8_52 rfl rfl ?_
    refine V.iconst (v := nI 1) (by decide) dX8_isLedTo_9 ?_
    refine V.lda (v := nI n) dX8_isLedTo_10 rfl (by decide) (by decide) hn ?_
    refine V.icmp_geN (tgt := 39) dX8_isLedTo_11 (by decide) (by omega) (by omega) (fun c2 => ?_) (fun c2 => ?_)
    · exact absurd c2 (by omega)
    · refine V.iload_n (j := 2) rfl dX8_isLedTo_14 ?_
      have K3 : V G MX8_isLedTo (am_R 1 22 0 0) Fn 0 0 32 [(0, .ref mM), (1, .int (nI k)), (2, .int (bI (∃ t, t < i ∧ mz_leads (A m_code) t = nI k))), (3, .int (nI i))] [.int (bI (∃ t, t < i + 1 ∧ mz_leads (A m_code) t = nI k))] (hp I A) := by
        refine V.istore_n (ls' := [(0, .ref mM), (1, .int (nI k)), (2, .int (bI (∃ t, t < i + 1 ∧ mz_leads (A m_code) t = nI k))), (3, .int (nI i))]) dX8_isLedTo_32 (by decide) rfl ?_
        refine V.iincN (ls' := [(0, .ref mM), (1, .int (nI k)), (2, .int (bI (∃ t, t < i + 1 ∧ mz_leads (A m_code) t = nI k))), (3, .int (nI (i + 1)))]) dX8_isLedTo_33 (j := 3) rfl (by decide) rfl ?_
        refine V.goto (tgt := 4) dX8_isLedTo_36 (by decide) ?_
        exact ih (i + 1) (by omega) hk
      refine V.if_ne (tgt := 27) dX8_isLedTo_15 (by decide) (fun c4 => ?_) (fun c4 => ?_)
      · refine V.iconst (v := nI 1) (by decide) dX8_isLedTo_27 ?_
        refine V.goto (tgt := 32) dX8_isLedTo_28 (by decide) ?_
        exact V.st (congrArg (fun x => [Value.int x]) (bI_1 (by obtain ⟨t, h1, h2⟩ := bI_nz c4; exact ⟨t, by omega, h2⟩))) K3
      · refine V.aload_n (j := 0) rfl dX8_isLedTo_18 ?_
        refine V.iload_n (j := 3) rfl dX8_isLedTo_19 ?_
        refine V.cV (As := [.int (nI i)]) (st := []) dX8_isLedTo_20 sX8_160 iX8_leads lX8_leads rfl rfl (md_leads I A i (by omega)) ⟨by decide, by decide⟩ (Nat.le_of_ble_eq_true rfl) rfl (fun r I' A' hq => ?_)
        obtain ⟨rfl, rfl, rfl⟩ := hq
        refine V.st (st' := [.int (mz_leads (A m_code) i)]) rfl ?_
        refine V.iload_n (j := 1) rfl dX8_isLedTo_23 ?_
        refine V.icmp_ne (tgt := 31) dX8_isLedTo_24 (by decide) (fun c5 => ?_) (fun c5 => ?_)
        · refine V.iconst (v := nI 0) (by decide) dX8_isLedTo_31 ?_
          exact V.st (congrArg (fun x => [Value.int x]) (bI_0 (ex_no (bI_z c4) c5))) K3
        · refine V.iconst (v := nI 1) (by decide) dX8_isLedTo_27 ?_
          refine V.goto (tgt := 32) dX8_isLedTo_28 (by decide) ?_
          exact V.st (congrArg (fun x => [Value.int x]) (bI_1 ⟨i, by omega, c5⟩)) K3
set_option maxRecDepth 100000 in
set_option maxHeartbeats 4000000 in
theorem md_isLedTo {G : am_G} (I A : Nat → Nat → Int32) (n : Nat) (hn : A m_items 1 = nI n) (hn4 : n < 400) (k : Nat) : Cm G MX8_isLedTo 1 22 [.ref mM, .int (nI k)] I A (fun r I' A' => r = some (.int (bI (mz_led (A m_code) n k))) ∧ I = I' ∧ A = A') := by
  refine Cm.of (by decide) (Nat.le_of_ble_eq_true rfl) rfl ?_
  show V G MX8_isLedTo (am_R 1 22 0 0) _ 0 0 0 [(0, .ref mM), (1, .int (nI k))] [] (hp I A)
  refine V.iconst (v := nI 0) (by decide) dX8_isLedTo_0 ?_
  refine V.istore_n (ls' := [(0, .ref mM), (1, .int (nI k)), (2, .int (nI 0))]) dX8_isLedTo_1 (by decide) rfl ?_
  refine V.iconst (v := nI 0) (by decide) dX8_isLedTo_2 ?_
  refine V.istore_n (ls' := [(0, .ref mM), (1, .int (nI k)), (2, .int (nI 0)), (3, .int (nI 0))]) dX8_isLedTo_3 (by decide) rfl ?_
  refine V.lse (ls' := [(0, .ref mM), (1, .int (nI k)), (2, .int (bI (∃ t, t < 0 ∧ mz_leads (A m_code) t = nI k))), (3, .int (nI 0))]) (by rw [← bI_0 (c := ∃ t, t < 0 ∧ _) (fun z => by obtain ⟨t, h1, h2⟩ := z; omega)]) ?_
  refine ml_isLedTo I A n hn hn4 k n 0 (by omega) ?_
  refine V.iload_n (j := 2) rfl dX8_isLedTo_39 ?_
  refine V.rz dX8_isLedTo_40 rfl (bI_bz _) ?_
  exact ⟨rfl, rfl, rfl⟩
set_option maxRecDepth 100000 in
set_option maxHeartbeats 4000000 in
theorem ml_needless {G : am_G} {Q : Option Value → (Nat → Nat → Int32) → (Nat → Nat → Int32) → Prop} (I A : Nat → Nat → Int32) (n : Nat) (hn : A m_items 1 = nI n) (hn4 : n < 400) (hret : ∀ i, i < n → mz_gone (A m_code) n i → mz_no (fun k => mz_gone (A m_code) n k) i → Q (some (.int (nI i))) I A) : ∀ (m : Nat) (i : Nat), i + m = n → mz_no (fun k => mz_gone (A m_code) n k) i → (mz_no (fun k => mz_gone (A m_code) n k) n → V G MX8_needless (am_R 2 45 0 0) (am_Fin G 0 0 (Pm Q)) 0 0 174 [(0, .ref mM)] [] (hp I A)) → V G MX8_needless (am_R 2 45 0 0) (am_Fin G 0 0 (Pm Q)) 0 0 2 [(0, .ref mM), (1, .int (nI i))] [] (hp I A) := by
  intro m
  induction m with
  | zero =>
    intro i hi0 hi1 hk
    obtain rfl : n = i := by omega
    refine V.iload_n (j := 1) rfl dX8_needless_2 ?_
    refine V.aload_n (j := 0) rfl dX8_needless_3 ?_
    refine V.getr (q := m_items) dX8_needless_4 fX8_52 rfl rfl ?_
    refine V.iconst (v := nI 1) (by decide) dX8_needless_7 ?_
    refine V.lda (v := nI n) dX8_needless_8 rfl (by decide) (by decide) hn ?_
    refine V.icmp_geN (tgt := 174) dX8_needless_9 (by decide) (by omega) (by omega) (fun c1 => ?_) (fun c1 => ?_)
    · refine V.fewer [0] rfl ?_
      exact hk hi1
    · exact absurd c1 (by omega)
  | succ m ih =>
    intro i hi0 hi1 hk
    refine V.iload_n (j := 1) rfl dX8_needless_2 ?_
    refine V.aload_n (j := 0) rfl dX8_needless_3 ?_
    refine V.getr (q := m_items) dX8_needless_4 fX8_52 rfl rfl ?_
    refine V.iconst (v := nI 1) (by decide) dX8_needless_7 ?_
    refine V.lda (v := nI n) dX8_needless_8 rfl (by decide) (by decide) hn ?_
    refine V.icmp_geN (tgt := 174) dX8_needless_9 (by decide) (by omega) (by omega) (fun c2 => ?_) (fun c2 => ?_)
    · exact absurd c2 (by omega)
    · refine V.sipush (v := nI 1600) (by decide) dX8_needless_12 ?_
      refine V.iconst (v := nI 4) (by decide) dX8_needless_15 ?_
      refine V.iload_n (j := 1) rfl dX8_needless_16 ?_
      refine V.imulN dX8_needless_17 ?_
      refine V.iaddN dX8_needless_18 ?_
      refine V.istore_n (ls' := [(0, .ref mM), (1, .int (nI i)), (2, .int (nI (1600 + (4 * i))))]) dX8_needless_19 (by decide) rfl ?_
      refine V.aload_n (j := 0) rfl dX8_needless_20 ?_
      refine V.getr (q := m_code) dX8_needless_21 fX8_49 rfl rfl ?_
      refine V.iload_n (j := 2) rfl dX8_needless_24 ?_
      refine V.lda (v := A m_code (1600 + (4 * i))) dX8_needless_25 rfl (by omega) (by decide) rfl ?_
      refine V.bipush (v := nI 8) (by decide) dX8_needless_26 ?_
      have K3 : V G MX8_needless (am_R 2 45 0 0) (am_Fin G 0 0 (Pm Q)) 0 0 47 [(0, .ref mM), (1, .int (nI i)), (2, .int (nI (1600 + (4 * i))))] [.int (bI (mz_P1 (A m_code) i))] (hp I A) := by
        refine V.istore_n (ls' := [(0, .ref mM), (1, .int (nI i)), (2, .int (nI (1600 + (4 * i)))), (3, .int (bI (mz_P1 (A m_code) i)))]) dX8_needless_47 (by decide) rfl ?_
        have K4 : V G MX8_needless (am_R 2 45 0 0) (am_Fin G 0 0 (Pm Q)) 0 0 162 [(0, .ref mM), (1, .int (nI i)), (2, .int (nI (1600 + (4 * i)))), (3, .int (bI (mz_gone (A m_code) n i)))] [] (hp I A) := by
          refine V.iload_n (j := 3) rfl dX8_needless_162 ?_
          refine V.if_eq (tgt := 168) dX8_needless_163 (by decide) (fun c5 => ?_) (fun c5 => ?_)
          · refine V.iincN (ls' := [(0, .ref mM), (1, .int (nI (i + 1))), (2, .int (nI (1600 + (4 * i)))), (3, .int (bI (mz_gone (A m_code) n i)))]) dX8_needless_168 (j := 1) rfl (by decide) rfl ?_
            refine V.goto (tgt := 2) dX8_needless_171 (by decide) ?_
            refine V.fewer [0, 1] rfl ?_
            exact ih (i + 1) (by omega) (lt_s hi1 (bI_z c5)) hk
          · refine V.iload_n (j := 1) rfl dX8_needless_166 ?_
            refine V.ri dX8_needless_167 rfl ?_
            exact hret i (by omega) (bI_nz c5) hi1
        refine V.iload_n (j := 1) rfl dX8_needless_48 ?_
        refine V.if_leN (tgt := 162) dX8_needless_49 (by decide) (by omega) (fun c6 => ?_) (fun c6 => ?_)
        · exact V.lse (by rw [show bI (mz_P1 (A m_code) i) = bI (mz_gone (A m_code) n i) from bI_c ⟨fun z => Or.inl z, fun z => z.elim id (fun y => by have := y.1; omega)⟩]) K4
        · refine V.iload_n (j := 3) rfl dX8_needless_52 ?_
          refine V.if_ne (tgt := 162) dX8_needless_53 (by decide) (fun c7 => ?_) (fun c7 => ?_)
          · exact V.lse (by rw [show bI (mz_P1 (A m_code) i) = bI (mz_gone (A m_code) n i) from bI_c ⟨fun z => Or.inl z, fun _ => bI_nz c7⟩]) K4
          · refine V.aload_n (j := 0) rfl dX8_needless_56 ?_
            refine V.getr (q := m_code) dX8_needless_57 fX8_49 rfl rfl ?_
            refine V.iload_n (j := 2) rfl dX8_needless_60 ?_
            refine V.iconst (v := nI 4) (by decide) dX8_needless_61 ?_
            refine V.isubN dX8_needless_62 (by omega) ?_
            refine V.lda (v := A m_code ((1600 + (4 * i)) - 4)) dX8_needless_63 rfl (by omega) (by decide) rfl ?_
            refine V.istore (ls' := [(0, .ref mM), (1, .int (nI i)), (2, .int (nI (1600 + (4 * i)))), (3, .int (bI (mz_P1 (A m_code) i))), (4, .int (A m_code ((1600 + (4 * i)) - 4)))]) dX8_needless_64 (by decide) rfl ?_
            refine V.aload_n (j := 0) rfl dX8_needless_66 ?_
            refine V.getr (q := m_code) dX8_needless_67 fX8_49 rfl rfl ?_
            refine V.iload_n (j := 2) rfl dX8_needless_70 ?_
            refine V.lda (v := A m_code (1600 + (4 * i))) dX8_needless_71 rfl (by omega) (by decide) rfl ?_
            refine V.bipush (v := nI 11) (by decide) dX8_needless_72 ?_
            have K8 : V G MX8_needless (am_R 2 45 0 0) (am_Fin G 0 0 (Pm Q)) 0 0 127 [(0, .ref mM), (1, .int (nI i)), (2, .int (nI (1600 + (4 * i)))), (3, .int (bI (mz_P1 (A m_code) i))), (4, .int (A m_code ((1600 + (4 * i)) - 4)))] [.int (bI (mz_AG (A m_code) i))] (hp I A) := by
              refine V.istore (ls' := [(0, .ref mM), (1, .int (nI i)), (2, .int (nI (1600 + (4 * i)))), (3, .int (bI (mz_P1 (A m_code) i))), (4, .int (A m_code ((1600 + (4 * i)) - 4))), (5, .int (bI (mz_AG (A m_code) i)))]) dX8_needless_127 (by decide) rfl ?_
              have K9 : V G MX8_needless (am_R 2 45 0 0) (am_Fin G 0 0 (Pm Q)) 0 0 161 [(0, .ref mM), (1, .int (nI i)), (2, .int (nI (1600 + (4 * i)))), (3, .int (bI (mz_P1 (A m_code) i))), (4, .int (A m_code ((1600 + (4 * i)) - 4))), (5, .int (bI (mz_AG (A m_code) i)))] [.int (bI (mz_P2 (A m_code) n i))] (hp I A) := by
                refine V.istore_n (ls' := [(0, .ref mM), (1, .int (nI i)), (2, .int (nI (1600 + (4 * i)))), (3, .int (bI (mz_P2 (A m_code) n i))), (4, .int (A m_code ((1600 + (4 * i)) - 4))), (5, .int (bI (mz_AG (A m_code) i)))]) dX8_needless_161 (by decide) rfl ?_
                refine V.fewer (ls' := [(0, .ref mM), (1, .int (nI i)), (2, .int (nI (1600 + (4 * i)))), (3, .int (bI (mz_P2 (A m_code) n i)))]) [0, 1, 2, 3] rfl ?_
                exact V.lse (by rw [show bI (mz_P2 (A m_code) n i) = bI (mz_gone (A m_code) n i) from bI_c ⟨fun z => Or.inr ⟨by omega, z⟩, fun z => z.elim (fun y => absurd y (bI_z c7)) (fun y => y.2)⟩]) K4
              refine V.iload (j := 5) rfl dX8_needless_129 ?_
              refine V.if_ne (tgt := 148) dX8_needless_131 (by decide) (fun c10 => ?_) (fun c10 => ?_)
              · refine V.aload_n (j := 0) rfl dX8_needless_148 ?_
                refine V.iload_n (j := 1) rfl dX8_needless_149 ?_
                refine V.cV (As := [.int (nI i)]) (st := []) dX8_needless_150 sX8_163 iX8_isLedTo lX8_isLedTo rfl rfl (md_isLedTo I A n hn hn4 i) ⟨by decide, by decide⟩ (Nat.le_of_ble_eq_true rfl) rfl (fun r I' A' hq => ?_)
                obtain ⟨rfl, rfl, rfl⟩ := hq
                by_cases b11 : mz_led (A m_code) n i
                · refine V.st (st' := [.int (nI 1)]) (by rw [bI_t b11]; rfl) ?_
                  refine V.if_ne (tgt := 160) dX8_needless_153 (by decide) (fun _ => ?_) (fun z => absurd z (by decide))
                  refine V.iconst (v := nI 0) (by decide) dX8_needless_160 ?_
                  exact V.st (congrArg (fun x => [Value.int x]) (bI_0 (c := mz_P2 (A m_code) n i) (fun z => z.2 b11))) K9
                · refine V.st (st' := [.int (nI 0)]) (by rw [bI_f b11]; rfl) ?_
                  refine V.if_ne (tgt := 160) dX8_needless_153 (by decide) (fun z => absurd z (by decide)) (fun _ => ?_)
                  refine V.iconst (v := nI 1) (by decide) dX8_needless_156 ?_
                  refine V.goto (tgt := 161) dX8_needless_157 (by decide) ?_
                  exact V.st (congrArg (fun x => [Value.int x]) (bI_1 (c := mz_P2 (A m_code) n i) ⟨Or.inl (bI_nz c10), b11⟩)) K9
              · refine V.iload (j := 4) rfl dX8_needless_134 ?_
                refine V.bipush (v := nI 8) (by decide) dX8_needless_136 ?_
                refine V.icmp_eq (tgt := 148) dX8_needless_138 (by decide) (fun c14 => ?_) (fun c14 => ?_)
                · refine V.aload_n (j := 0) rfl dX8_needless_148 ?_
                  refine V.iload_n (j := 1) rfl dX8_needless_149 ?_
                  refine V.cV (As := [.int (nI i)]) (st := []) dX8_needless_150 sX8_163 iX8_isLedTo lX8_isLedTo rfl rfl (md_isLedTo I A n hn hn4 i) ⟨by decide, by decide⟩ (Nat.le_of_ble_eq_true rfl) rfl (fun r I' A' hq => ?_)
                  obtain ⟨rfl, rfl, rfl⟩ := hq
                  by_cases b15 : mz_led (A m_code) n i
                  · refine V.st (st' := [.int (nI 1)]) (by rw [bI_t b15]; rfl) ?_
                    refine V.if_ne (tgt := 160) dX8_needless_153 (by decide) (fun _ => ?_) (fun z => absurd z (by decide))
                    refine V.iconst (v := nI 0) (by decide) dX8_needless_160 ?_
                    exact V.st (congrArg (fun x => [Value.int x]) (bI_0 (c := mz_P2 (A m_code) n i) (fun z => z.2 b15))) K9
                  · refine V.st (st' := [.int (nI 0)]) (by rw [bI_f b15]; rfl) ?_
                    refine V.if_ne (tgt := 160) dX8_needless_153 (by decide) (fun z => absurd z (by decide)) (fun _ => ?_)
                    refine V.iconst (v := nI 1) (by decide) dX8_needless_156 ?_
                    refine V.goto (tgt := 161) dX8_needless_157 (by decide) ?_
                    exact V.st (congrArg (fun x => [Value.int x]) (bI_1 (c := mz_P2 (A m_code) n i) ⟨Or.inr (Or.inl c14), b15⟩)) K9
                · refine V.iload (j := 4) rfl dX8_needless_141 ?_
                  refine V.bipush (v := nI 10) (by decide) dX8_needless_143 ?_
                  refine V.icmp_ne (tgt := 160) dX8_needless_145 (by decide) (fun c18 => ?_) (fun c18 => ?_)
                  · refine V.iconst (v := nI 0) (by decide) dX8_needless_160 ?_
                    exact V.st (congrArg (fun x => [Value.int x]) (bI_0 (c := mz_P2 (A m_code) n i) (fun z => z.1.elim (bI_z c10) (fun y => y.elim c14 c18)))) K9
                  · refine V.aload_n (j := 0) rfl dX8_needless_148 ?_
                    refine V.iload_n (j := 1) rfl dX8_needless_149 ?_
                    refine V.cV (As := [.int (nI i)]) (st := []) dX8_needless_150 sX8_163 iX8_isLedTo lX8_isLedTo rfl rfl (md_isLedTo I A n hn hn4 i) ⟨by decide, by decide⟩ (Nat.le_of_ble_eq_true rfl) rfl (fun r I' A' hq => ?_)
                    obtain ⟨rfl, rfl, rfl⟩ := hq
                    by_cases b19 : mz_led (A m_code) n i
                    · refine V.st (st' := [.int (nI 1)]) (by rw [bI_t b19]; rfl) ?_
                      refine V.if_ne (tgt := 160) dX8_needless_153 (by decide) (fun _ => ?_) (fun z => absurd z (by decide))
                      refine V.iconst (v := nI 0) (by decide) dX8_needless_160 ?_
                      exact V.st (congrArg (fun x => [Value.int x]) (bI_0 (c := mz_P2 (A m_code) n i) (fun z => z.2 b19))) K9
                    · refine V.st (st' := [.int (nI 0)]) (by rw [bI_f b19]; rfl) ?_
                      refine V.if_ne (tgt := 160) dX8_needless_153 (by decide) (fun z => absurd z (by decide)) (fun _ => ?_)
                      refine V.iconst (v := nI 1) (by decide) dX8_needless_156 ?_
                      refine V.goto (tgt := 161) dX8_needless_157 (by decide) ?_
                      exact V.st (congrArg (fun x => [Value.int x]) (bI_1 (c := mz_P2 (A m_code) n i) ⟨Or.inr (Or.inr c18), b19⟩)) K9
            refine V.icmp_ne (tgt := 126) dX8_needless_74 (by decide) (fun c22 => ?_) (fun c22 => ?_)
            · refine V.iconst (v := nI 0) (by decide) dX8_needless_126 ?_
              exact V.st (congrArg (fun x => [Value.int x]) (bI_0 (c := mz_AG (A m_code) i) (fun z => c22 z.1))) K8
            · refine V.iload (j := 4) rfl dX8_needless_77 ?_
              refine V.bipush (v := nI 12) (by decide) dX8_needless_79 ?_
              refine V.icmp_ne (tgt := 126) dX8_needless_81 (by decide) (fun c23 => ?_) (fun c23 => ?_)
              · refine V.iconst (v := nI 0) (by decide) dX8_needless_126 ?_
                exact V.st (congrArg (fun x => [Value.int x]) (bI_0 (c := mz_AG (A m_code) i) (fun z => c23 z.2.1))) K8
              · refine V.aload_n (j := 0) rfl dX8_needless_84 ?_
                refine V.getr (q := m_code) dX8_needless_85 fX8_49 rfl rfl ?_
                refine V.iload_n (j := 2) rfl dX8_needless_88 ?_
                refine V.iconst (v := nI 1) (by decide) dX8_needless_89 ?_
                refine V.iaddN dX8_needless_90 ?_
                refine V.lda (v := A m_code ((1600 + (4 * i)) + 1)) dX8_needless_91 rfl (by omega) (by decide) rfl ?_
                refine V.aload_n (j := 0) rfl dX8_needless_92 ?_
                refine V.getr (q := m_code) dX8_needless_93 fX8_49 rfl rfl ?_
                refine V.iload_n (j := 2) rfl dX8_needless_96 ?_
                refine V.iconst (v := nI 3) (by decide) dX8_needless_97 ?_
                refine V.isubN dX8_needless_98 (by omega) ?_
                refine V.lda (v := A m_code ((1600 + (4 * i)) - 3)) dX8_needless_99 rfl (by omega) (by decide) rfl ?_
                refine V.icmp_ne (tgt := 126) dX8_needless_100 (by decide) (fun c24 => ?_) (fun c24 => ?_)
                · refine V.iconst (v := nI 0) (by decide) dX8_needless_126 ?_
                  exact V.st (congrArg (fun x => [Value.int x]) (bI_0 (c := mz_AG (A m_code) i) (fun z => c24 z.2.2.1))) K8
                · refine V.aload_n (j := 0) rfl dX8_needless_103 ?_
                  refine V.getr (q := m_code) dX8_needless_104 fX8_49 rfl rfl ?_
                  refine V.iload_n (j := 2) rfl dX8_needless_107 ?_
                  refine V.iconst (v := nI 2) (by decide) dX8_needless_108 ?_
                  refine V.iaddN dX8_needless_109 ?_
                  refine V.lda (v := A m_code ((1600 + (4 * i)) + 2)) dX8_needless_110 rfl (by omega) (by decide) rfl ?_
                  refine V.aload_n (j := 0) rfl dX8_needless_111 ?_
                  refine V.getr (q := m_code) dX8_needless_112 fX8_49 rfl rfl ?_
                  refine V.iload_n (j := 2) rfl dX8_needless_115 ?_
                  refine V.iconst (v := nI 2) (by decide) dX8_needless_116 ?_
                  refine V.isubN dX8_needless_117 (by omega) ?_
                  refine V.lda (v := A m_code ((1600 + (4 * i)) - 2)) dX8_needless_118 rfl (by omega) (by decide) rfl ?_
                  refine V.icmp_ne (tgt := 126) dX8_needless_119 (by decide) (fun c25 => ?_) (fun c25 => ?_)
                  · refine V.iconst (v := nI 0) (by decide) dX8_needless_126 ?_
                    exact V.st (congrArg (fun x => [Value.int x]) (bI_0 (c := mz_AG (A m_code) i) (fun z => c25 z.2.2.2))) K8
                  · refine V.iconst (v := nI 1) (by decide) dX8_needless_122 ?_
                    refine V.goto (tgt := 127) dX8_needless_123 (by decide) ?_
                    exact V.st (congrArg (fun x => [Value.int x]) (bI_1 (c := mz_AG (A m_code) i) ⟨c22, c23, c24, c25⟩)) K8
      refine V.icmp_ne (tgt := 46) dX8_needless_28 (by decide) (fun c26 => ?_) (fun c26 => ?_)
      · refine V.iconst (v := nI 0) (by decide) dX8_needless_46 ?_
        exact V.st (congrArg (fun x => [Value.int x]) (bI_0 (c := mz_P1 (A m_code) i) (fun z => c26 z.1))) K3
      · refine V.aload_n (j := 0) rfl dX8_needless_31 ?_
        refine V.iload_n (j := 1) rfl dX8_needless_32 ?_
        refine V.cV (As := [.int (nI i)]) (st := []) dX8_needless_33 sX8_160 iX8_leads lX8_leads rfl rfl (md_leads I A i (by omega)) ⟨by decide, by decide⟩ (Nat.le_of_ble_eq_true rfl) rfl (fun r I' A' hq => ?_)
        obtain ⟨rfl, rfl, rfl⟩ := hq
        refine V.st (st' := [.int (mz_leads (A m_code) i)]) rfl ?_
        refine V.iload_n (j := 1) rfl dX8_needless_36 ?_
        refine V.iconst (v := nI 1) (by decide) dX8_needless_37 ?_
        refine V.iaddN dX8_needless_38 ?_
        refine V.icmp_ne (tgt := 46) dX8_needless_39 (by decide) (fun c27 => ?_) (fun c27 => ?_)
        · refine V.iconst (v := nI 0) (by decide) dX8_needless_46 ?_
          exact V.st (congrArg (fun x => [Value.int x]) (bI_0 (c := mz_P1 (A m_code) i) (fun z => c27 z.2))) K3
        · refine V.iconst (v := nI 1) (by decide) dX8_needless_42 ?_
          refine V.goto (tgt := 47) dX8_needless_43 (by decide) ?_
          exact V.st (congrArg (fun x => [Value.int x]) (bI_1 (c := mz_P1 (A m_code) i) ⟨c26, c27⟩)) K3
set_option maxRecDepth 100000 in
set_option maxHeartbeats 4000000 in
theorem md_needless {G : am_G} (I A : Nat → Nat → Int32) (n : Nat) (hn : A m_items 1 = nI n) (hn4 : n < 400) : Cm G MX8_needless 2 45 [.ref mM] I A (fun r I' A' => ((∃ i, r = some (.int (nI i)) ∧ i < n ∧ mz_gone (A m_code) n i ∧ mz_no (fun k => mz_gone (A m_code) n k) i) ∨ (r = some (.int (-1)) ∧ mz_no (fun k => mz_gone (A m_code) n k) n)) ∧ I = I' ∧ A = A') := by
  refine Cm.of (by decide) (Nat.le_of_ble_eq_true rfl) rfl ?_
  show V G MX8_needless (am_R 2 45 0 0) _ 0 0 0 [(0, .ref mM)] [] (hp I A)
  refine V.iconst (v := nI 0) (by decide) dX8_needless_0 ?_
  refine V.istore_n (ls' := [(0, .ref mM), (1, .int (nI 0))]) dX8_needless_1 (by decide) rfl ?_
  refine ml_needless I A n hn hn4 (fun i h1 h2 h3 => ⟨Or.inl ⟨i, rfl, h1, h2, h3⟩, rfl, rfl⟩) n 0 (by omega) (fun _ h => absurd h (Nat.not_lt_zero _)) (fun hno => ?_)
  refine V.iconst (v := (-1)) (by decide) dX8_needless_174 ?_
  refine V.ri dX8_needless_175 rfl ?_
  exact ⟨Or.inr ⟨rfl, hno⟩, rfl, rfl⟩
end
section
/-- a row's places from k on, m of them, get what stands four places on -/
def mz_shl : Nat → Nat → (Nat → Int32) → Nat → Int32
  | 0, _, c => c
  | m + 1, k, c => mz_shl m (k + 1) (upd c k (c (k + 4)))
abbrev mz_off (c : Nat → Int32) (k : Nat) : Nat := if c (1600 + 4 * k) = nI 7 then 3 else 1
/-- what led behind item i leads one less far -/
def mz_dc (c : Nat → Int32) (i k : Nat) : Nat → Int32 := if mz_leads c k ≤ nI i then c else upd c (1600 + 4 * k + mz_off c k) (c (1600 + 4 * k + mz_off c k) - nI 1)
def mz_dec (i : Nat) : Nat → Nat → (Nat → Int32) → Nat → Int32
  | 0, _, c => c
  | m + 1, k, c => mz_dec i m (k + 1) (mz_dc c i k)
/-- item i is taken away, n are left -/
def mz_take (c : Nat → Int32) (n i : Nat) : Nat → Int32 := mz_dec i n 0 (mz_shl (4 * n - 4 * i) (1600 + 4 * i) c)
set_option maxRecDepth 100000 in
set_option maxHeartbeats 4000000 in
theorem ml_take1 {G : am_G} {Fn : Array Value → State → List Frame → State → Prop} (I A : Nat → Nat → Int32) (n : Nat) (hn : A m_items 1 = nI n) (hn4 : n < 399) (i : Nat) : ∀ (m : Nat) (k : Nat) (c : Nat → Int32), k + m = 1600 + 4 * n → V G MX8_take (am_R 1 22 0 0) Fn 0 0 54 [(0, .ref mM), (1, .int (nI i))] [] (hp I (upA A m_code (mz_shl m k c))) → V G MX8_take (am_R 1 22 0 0) Fn 0 0 18 [(0, .ref mM), (1, .int (nI i)), (2, .int (nI k))] [] (hp I (upA A m_code (c))) := by
  intro m
  induction m with
  | zero =>
    intro k c hi0 hk
    refine V.iload_n (j := 2) rfl dX8_take_18 ?_
    refine V.sipush (v := nI 1600) (by decide) dX8_take_19 ?_
    refine V.iconst (v := nI 4) (by decide) dX8_take_22 ?_
    refine V.aload_n (j := 0) rfl dX8_take_23 ?_
    refine V.getr (q := m_items) dX8_take_24 fX8_52 rfl rfl ?_
    refine V.iconst (v := nI 1) (by decide) dX8_take_27 ?_
    refine V.lda (v := nI n) dX8_take_28 rfl (by decide) (by decide) hn ?_
    refine V.imulN dX8_take_29 ?_
    refine V.iaddN dX8_take_30 ?_
    refine V.icmp_geN (tgt := 54) dX8_take_31 (by decide) (by omega) (by omega) (fun c1 => ?_) (fun c1 => ?_)
    · refine V.fewer [0, 1] rfl ?_
      exact hk
    · exact absurd c1 (by omega)
  | succ m ih =>
    intro k c hi0 hk
    refine V.iload_n (j := 2) rfl dX8_take_18 ?_
    refine V.sipush (v := nI 1600) (by decide) dX8_take_19 ?_
    refine V.iconst (v := nI 4) (by decide) dX8_take_22 ?_
    refine V.aload_n (j := 0) rfl dX8_take_23 ?_
    refine V.getr (q := m_items) dX8_take_24 fX8_52 rfl rfl ?_
    refine V.iconst (v := nI 1) (by decide) dX8_take_27 ?_
    refine V.lda (v := nI n) dX8_take_28 rfl (by decide) (by decide) hn ?_
    refine V.imulN dX8_take_29 ?_
    refine V.iaddN dX8_take_30 ?_
    refine V.icmp_geN (tgt := 54) dX8_take_31 (by decide) (by omega) (by omega) (fun c2 => ?_) (fun c2 => ?_)
    · exact absurd c2 (by omega)
    · refine V.aload_n (j := 0) rfl dX8_take_34 ?_
      refine V.getr (q := m_code) dX8_take_35 fX8_49 rfl rfl ?_
      refine V.iload_n (j := 2) rfl dX8_take_38 ?_
      refine V.aload_n (j := 0) rfl dX8_take_39 ?_
      refine V.getr (q := m_code) dX8_take_40 fX8_49 rfl rfl ?_
      refine V.iload_n (j := 2) rfl dX8_take_43 ?_
      refine V.iconst (v := nI 4) (by decide) dX8_take_44 ?_
      refine V.iaddN dX8_take_45 ?_
      refine V.lda (v := c (k + 4)) dX8_take_46 rfl (by omega) (by decide) rfl ?_
      refine V.sta (g := upd c k (c (k + 4))) dX8_take_47 rfl (by omega) (by decide) rfl ?_
      refine V.hpe (A' := (upA A m_code (upd c k (c (k + 4))))) rfl upA_u ?_
      refine V.iincN (ls' := [(0, .ref mM), (1, .int (nI i)), (2, .int (nI (k + 1)))]) dX8_take_48 (j := 2) rfl (by decide) rfl ?_
      refine V.goto (tgt := 18) dX8_take_51 (by decide) ?_
      exact ih (k + 1) _ (by omega) hk
set_option maxRecDepth 100000 in
set_option maxHeartbeats 4000000 in
theorem ml_take2 {G : am_G} {Fn : Array Value → State → List Frame → State → Prop} (I A : Nat → Nat → Int32) (n : Nat) (hn : A m_items 1 = nI n) (hn4 : n < 399) (i : Nat) : ∀ (m : Nat) (k : Nat) (c : Nat → Int32), k + m = n → V G MX8_take (am_R 1 22 0 0) Fn 0 0 116 [(0, .ref mM)] [] (hp I (upA A m_code (mz_dec i m k c))) → V G MX8_take (am_R 1 22 0 0) Fn 0 0 56 [(0, .ref mM), (1, .int (nI i)), (2, .int (nI k))] [] (hp I (upA A m_code (c))) := by
  intro m
  induction m with
  | zero =>
    intro k c hi0 hk
    refine V.iload_n (j := 2) rfl dX8_take_56 ?_
    refine V.aload_n (j := 0) rfl dX8_take_57 ?_
    refine V.getr (q := m_items) dX8_take_58 fX8_52 rfl rfl ?_
    refine V.iconst (v := nI 1) (by decide) dX8_take_61 ?_
    refine V.lda (v := nI n) dX8_take_62 rfl (by decide) (by decide) hn ?_
    refine V.icmp_geN (tgt := 116) dX8_take_63 (by decide) (by omega) (by omega) (fun c1 => ?_) (fun c1 => ?_)
    · refine V.fewer [0] rfl ?_
      exact hk
    · exact absurd c1 (by omega)
  | succ m ih =>
    intro k c hi0 hk
    refine V.iload_n (j := 2) rfl dX8_take_56 ?_
    refine V.aload_n (j := 0) rfl dX8_take_57 ?_
    refine V.getr (q := m_items) dX8_take_58 fX8_52 rfl rfl ?_
    refine V.iconst (v := nI 1) (by decide) dX8_take_61 ?_
    refine V.lda (v := nI n) dX8_take_62 rfl (by decide) (by decide) hn ?_
    refine V.icmp_geN (tgt := 116) dX8_take_63 (by decide) (by omega) (by omega) (fun c2 => ?_) (fun c2 => ?_)
    · exact absurd c2 (by omega)
    · refine V.sipush (v := nI 1600) (by decide) dX8_take_66 ?_
      refine V.iconst (v := nI 4) (by decide) dX8_take_69 ?_
      refine V.iload_n (j := 2) rfl dX8_take_70 ?_
      refine V.imulN dX8_take_71 ?_
      refine V.iaddN dX8_take_72 ?_
      refine V.istore_n (ls' := [(0, .ref mM), (1, .int (nI i)), (2, .int (nI k)), (3, .int (nI (1600 + (4 * k))))]) dX8_take_73 (by decide) rfl ?_
      refine V.aload_n (j := 0) rfl dX8_take_74 ?_
      refine V.iload_n (j := 2) rfl dX8_take_75 ?_
      refine V.cV (As := [.int (nI k)]) (st := []) dX8_take_76 sX8_160 iX8_leads lX8_leads rfl rfl (md_leads I (upA A m_code (c)) k (by omega)) ⟨by decide, by decide⟩ (Nat.le_of_ble_eq_true rfl) rfl (fun r I' A' hq => ?_)
      obtain ⟨rfl, rfl, rfl⟩ := hq
      refine V.st (st' := [.int (mz_leads c k)]) rfl ?_
      refine V.iload_n (j := 1) rfl dX8_take_79 ?_
      have K3 : V G MX8_take (am_R 1 22 0 0) Fn 0 0 110 [(0, .ref mM), (1, .int (nI i)), (2, .int (nI k)), (3, .int (nI (1600 + (4 * k))))] [] (hp I (upA A m_code (mz_dc c i k))) := by
        refine V.iincN (ls' := [(0, .ref mM), (1, .int (nI i)), (2, .int (nI (k + 1))), (3, .int (nI (1600 + (4 * k))))]) dX8_take_110 (j := 2) rfl (by decide) rfl ?_
        refine V.goto (tgt := 56) dX8_take_113 (by decide) ?_
        refine V.fewer [0, 1, 2] rfl ?_
        exact ih (k + 1) _ (by omega) hk
      refine V.icmp_le (tgt := 110) dX8_take_80 (by decide) (fun c4 => ?_) (fun c4 => ?_)
      · exact V.hpe rfl (congrArg (upA A m_code) (show _ = mz_dc c i k from (if_pos c4).symm)) K3
      · refine V.aload_n (j := 0) rfl dX8_take_83 ?_
        refine V.getr (q := m_code) dX8_take_84 fX8_49 rfl rfl ?_
        refine V.iload_n (j := 3) rfl dX8_take_87 ?_
        refine V.aload_n (j := 0) rfl dX8_take_88 ?_
        refine V.getr (q := m_code) dX8_take_89 fX8_49 rfl rfl ?_
        refine V.iload_n (j := 3) rfl dX8_take_92 ?_
        refine V.lda (v := c (1600 + (4 * k))) dX8_take_93 rfl (by omega) (by decide) rfl ?_
        refine V.bipush (v := nI 7) (by decide) dX8_take_94 ?_
        have K5 : V G MX8_take (am_R 1 22 0 0) Fn 0 0 104 [(0, .ref mM), (1, .int (nI i)), (2, .int (nI k)), (3, .int (nI (1600 + (4 * k))))] [.int (nI (mz_off c k)), .int (nI (1600 + (4 * k))), .ref m_code] (hp I (upA A m_code (c))) := by
          have hoff : mz_off c k ≤ 3 := by unfold mz_off; split <;> omega
          refine V.iaddN dX8_take_104 ?_
          refine V.dup2 rfl rfl dX8_take_105 ?_
          refine V.lda (v := c ((1600 + (4 * k)) + (mz_off c k))) dX8_take_106 rfl (by omega) (by decide) rfl ?_
          refine V.iconst (v := nI 1) (by decide) dX8_take_107 ?_
          refine V.isub dX8_take_108 ?_
          refine V.sta (g := upd c ((1600 + (4 * k)) + (mz_off c k)) ((c ((1600 + (4 * k)) + (mz_off c k))) - (nI 1))) dX8_take_109 rfl (by omega) (by decide) rfl ?_
          refine V.hpe (A' := (upA A m_code (upd c ((1600 + (4 * k)) + (mz_off c k)) ((c ((1600 + (4 * k)) + (mz_off c k))) - (nI 1))))) rfl upA_u ?_
          exact V.hpe rfl (congrArg (upA A m_code) (show _ = mz_dc c i k from (if_neg c4).symm)) K3
        refine V.icmp_ne (tgt := 103) dX8_take_96 (by decide) (fun c6 => ?_) (fun c6 => ?_)
        · refine V.iconst (v := nI 1) (by decide) dX8_take_103 ?_
          exact V.st (by rw [show mz_off c k = 1 from if_neg c6]) K5
        · refine V.iconst (v := nI 3) (by decide) dX8_take_99 ?_
          refine V.goto (tgt := 104) dX8_take_100 (by decide) ?_
          exact V.st (by rw [show mz_off c k = 3 from if_pos c6]) K5
set_option maxRecDepth 100000 in
set_option maxHeartbeats 4000000 in
theorem md_take {G : am_G} (I A : Nat → Nat → Int32) (n : Nat) (hn : A m_items 1 = nI (n + 1)) (hn4 : n < 399) (i : Nat) (hi : i ≤ n) : Cm G MX8_take 1 22 [.ref mM, .int (nI i)] I A (fun r I' A' => r = none ∧ I = I' ∧ upA (upA A m_items (upd (A m_items) 1 (nI n))) m_code (mz_take (A m_code) n i) = A') := by
  refine Cm.of (by decide) (Nat.le_of_ble_eq_true rfl) rfl ?_
  show V G MX8_take (am_R 1 22 0 0) _ 0 0 0 [(0, .ref mM), (1, .int (nI i))] [] (hp I A)
  refine V.aload_n (j := 0) rfl dX8_take_0 ?_
  refine V.getr (q := m_items) dX8_take_1 fX8_52 rfl rfl ?_
  refine V.iconst (v := nI 1) (by decide) dX8_take_4 ?_
  refine V.dup2 rfl rfl dX8_take_5 ?_
  refine V.lda (v := nI (n + 1)) dX8_take_6 rfl (by decide) (by decide) hn ?_
  refine V.iconst (v := nI 1) (by decide) dX8_take_7 ?_
  refine V.isubN dX8_take_8 (by omega) ?_
  refine V.st (st' := [.int (nI n), .int (nI 1), .ref m_items]) rfl ?_
  refine V.sta (g := upd (A m_items) 1 (nI n)) dX8_take_9 rfl (by decide) (by decide) rfl ?_
  refine V.sipush (v := nI 1600) (by decide) dX8_take_10 ?_
  refine V.iconst (v := nI 4) (by decide) dX8_take_13 ?_
  refine V.iload_n (j := 1) rfl dX8_take_14 ?_
  refine V.imulN dX8_take_15 ?_
  refine V.iaddN dX8_take_16 ?_
  refine V.istore_n (ls' := [(0, .ref mM), (1, .int (nI i)), (2, .int (nI (1600 + (4 * i))))]) dX8_take_17 (by decide) rfl ?_
  refine V.hpe (A' := (upA (upA A m_items (upd (A m_items) 1 (nI n))) m_code (A m_code))) rfl (by rw [show A m_code = (upA A m_items (upd (A m_items) 1 (nI n))) m_code from rfl, upA_i]) ?_
  refine ml_take1 I (upA A m_items (upd (A m_items) 1 (nI n))) n rfl (by omega) i (4 * n - 4 * i) (1600 + 4 * i) _ (by omega) ?_
  refine V.iconst (v := nI 0) (by decide) dX8_take_54 ?_
  refine V.istore_n (ls' := [(0, .ref mM), (1, .int (nI i)), (2, .int (nI 0))]) dX8_take_55 (by decide) rfl ?_
  refine ml_take2 I (upA A m_items (upd (A m_items) 1 (nI n))) n rfl (by omega) i n 0 _ (by omega) ?_
  refine V.rv dX8_take_116 rfl ?_
  exact ⟨rfl, rfl, rfl⟩
end
section
theorem mz_FA_5 {A : Nat → Nat → Int32} {g f : Nat → Int32} {F1 F2 : mz_FS} : mz_FA (upA (mz_FA A g F1) m_firstItem f) g F2 = upA (mz_FA A g F2) m_firstItem f := by
  funext b
  by_cases h1 : b = m_items
  · subst h1; rfl
  · by_cases h2 : b = m_code
    · subst h2; rfl
    · by_cases h3 : b = m_into
      · subst h3; rfl
      · by_cases h4 : b = m_fetches
        · subst h4; rfl
        · by_cases h5 : b = m_firstItem
          · subst h5; rfl
          · simp [mz_FA, upA, h1, h2, h3, h4, h5]
theorem mz_mk_le {op fa fb fc cl hm fe it c : Nat → Int32} {s n : Nat} : (mz_mk op fa fb fc cl hm s fe it c n).2 ≤ n + 4 := by
  by_cases h : mz_ndl op fa fb cl hm s
  · rw [mz_mk_t h]; exact Nat.le_add_right _ _
  · rw [mz_mk_f h]
    have h1 := (mz_f2_le (op := op) (fa := fa) (fb := fb) (fc := fc) (cl := cl) (hm := hm) (s := s) (F := (0, fe, it, c, n))).2
    dsimp only at h1
    unfold mz_mkN mz_kp
    split
    · dsimp only; omega
    · split
      · dsimp only; omega
      · dsimp only; omega
/-- the steps' items, one step after another: the code, how many items, where each step begins -/
noncomputable def mz_cds (op fa fb fc cl hm : Nat → Int32) : Nat → Nat → (Nat → Int32) → (Nat → Int32) → (Nat → Int32) → Nat → (Nat → Int32) → (Nat → Int32) → Nat → (Nat → Int32) → Prop
  | 0, _, _, _, c, n, f, c', n', f' => c' = c ∧ n' = n ∧ f' = f
  | m + 1, s, fe, it, c, n, f, c', n', f' => ∃ fe' it', mz_cds op fa fb fc cl hm m (s + 1) fe' it' (mz_mk op fa fb fc cl hm s fe it c n).1 (mz_mk op fa fb fc cl hm s fe it c n).2 (upd f s (nI n)) c' n' f'
set_option maxRecDepth 100000 in
set_option maxHeartbeats 4000000 in
theorem ml_make1 {G : am_G} {Fn : Array Value → State → List Frame → State → Prop} (I A : Nat → Nat → Int32) (nv ns : Nat) (hs : I mM 2 = nI ns) (hns : ns ≤ 60) (hnv : nv ≤ 24) (hsw : ∀ s, s < ns → mz_sw nv (A m_ops s) (A m_first s) (A m_second s) (A m_third s)) (g : Nat → Int32) : ∀ (m : Nat) (s : Nat) (z : Int32) (fe : Nat → Int32) (it : Nat → Int32) (c : Nat → Int32) (n : Nat) (f : Nat → Int32), s + m = ns → n ≤ 4 * s → (∀ z' fe' it' c' n' f', mz_cds (A m_ops) (A m_first) (A m_second) (A m_third) (A m_classes) (A m_homes) m s fe it c n f c' n' f' → n' ≤ 4 * ns → V G MX8_makeCode (am_R 4 95 0 0) Fn 0 0 44 [(0, .ref mM)] [] (hp (upI I mM 25 z') (upA (mz_FA A g (0, fe', it', c', n')) m_firstItem f'))) → V G MX8_makeCode (am_R 4 95 0 0) Fn 0 0 13 [(0, .ref mM), (1, .int (nI s))] [] (hp (upI I mM 25 (z)) (upA (upA (upA (upA (upA A m_fetches (fe)) m_into (it)) m_code (c)) m_items (upd g 0 (nI n))) m_firstItem (f))) := by
  intro m
  induction m with
  | zero =>
    intro s z fe it c n f hi0 hi1 hk
    refine V.iload_n (j := 1) rfl dX8_makeCode_13 ?_
    refine V.aload_n (j := 0) rfl dX8_makeCode_14 ?_
    refine V.geti (v := nI ns) dX8_makeCode_15 fX8_95 rfl rfl hs ?_
    refine V.icmp_geN (tgt := 44) dX8_makeCode_18 (by decide) (by omega) (by omega) (fun c1 => ?_) (fun c1 => ?_)
    · refine V.fewer [0] rfl ?_
      exact hk z fe it c n f ⟨rfl, rfl, rfl⟩ (by omega)
    · exact absurd c1 (by omega)
  | succ m ih =>
    intro s z fe it c n f hi0 hi1 hk
    refine V.iload_n (j := 1) rfl dX8_makeCode_13 ?_
    refine V.aload_n (j := 0) rfl dX8_makeCode_14 ?_
    refine V.geti (v := nI ns) dX8_makeCode_15 fX8_95 rfl rfl hs ?_
    refine V.icmp_geN (tgt := 44) dX8_makeCode_18 (by decide) (by omega) (by omega) (fun c2 => ?_) (fun c2 => ?_)
    · exact absurd c2 (by omega)
    · refine V.aload_n (j := 0) rfl dX8_makeCode_21 ?_
      refine V.getr (q := m_firstItem) dX8_makeCode_22 fX8_55 rfl rfl ?_
      refine V.iload_n (j := 1) rfl dX8_makeCode_25 ?_
      refine V.aload_n (j := 0) rfl dX8_makeCode_26 ?_
      refine V.getr (q := m_items) dX8_makeCode_27 fX8_52 rfl rfl ?_
      refine V.iconst (v := nI 0) (by decide) dX8_makeCode_30 ?_
      refine V.lda (v := (upd g 0 (nI n)) 0) dX8_makeCode_31 rfl (by decide) (by decide) rfl ?_
      refine V.st (st' := [.int (nI n), .int (nI s), .ref m_firstItem]) rfl ?_
      refine V.sta (g := upd f s (nI n)) dX8_makeCode_32 rfl (by omega) (by decide) rfl ?_
      refine V.hpe (A' := (upA (upA (upA (upA (upA A m_fetches (fe)) m_into (it)) m_code (c)) m_items (upd g 0 (nI n))) m_firstItem (upd f s (nI n)))) rfl upA_u ?_
      refine V.aload_n (j := 0) rfl dX8_makeCode_33 ?_
      refine V.iload_n (j := 1) rfl dX8_makeCode_34 ?_
      refine V.cV (As := [.int (nI s)]) (st := []) dX8_makeCode_35 sX8_150 iX8_makeStep lX8_makeStep rfl rfl (md_makeStep (upI I mM 25 (z)) (upA (upA (upA (upA (upA A m_fetches (fe)) m_into (it)) m_code (c)) m_items (upd g 0 (nI n))) m_firstItem (upd f s (nI n))) nv hnv s (by omega) (hsw s (by omega)) g n rfl (by omega)) ⟨by decide, by decide⟩ (Nat.le_of_ble_eq_true rfl) rfl (fun r I' A' hq => ?_)
      obtain ⟨rfl, z', fe', it', rfl, rfl⟩ := hq
      refine V.st (st' := []) rfl ?_
      refine V.hpe (I' := (upI I mM 25 (z'))) (A' := (upA (upA (upA (upA (upA A m_fetches (fe')) m_into (it')) m_code ((mz_mk (A m_ops) (A m_first) (A m_second) (A m_third) (A m_classes) (A m_homes) s fe it c n).1)) m_items (upd g 0 (nI (mz_mk (A m_ops) (A m_first) (A m_second) (A m_third) (A m_classes) (A m_homes) s fe it c n).2))) m_firstItem (upd f s (nI n)))) upI_u (mz_FA_5 (A := A) (g := g) (f := upd f s (nI n)) (F1 := (0, fe, it, c, n)) (F2 := (0, fe', it', (mz_mk (A m_ops) (A m_first) (A m_second) (A m_third) (A m_classes) (A m_homes) s fe it c n).1, (mz_mk (A m_ops) (A m_first) (A m_second) (A m_third) (A m_classes) (A m_homes) s fe it c n).2))) ?_
      refine V.iincN (ls' := [(0, .ref mM), (1, .int (nI (s + 1)))]) dX8_makeCode_38 (j := 1) rfl (by decide) rfl ?_
      refine V.goto (tgt := 13) dX8_makeCode_41 (by decide) ?_
      have hle := mz_mk_le (op := A m_ops) (fa := A m_first) (fb := A m_second) (fc := A m_third) (cl := A m_classes) (hm := A m_homes) (fe := fe) (it := it) (c := c) (s := s) (n := n)
      exact ih (s + 1) _ _ _ _ _ _ (by omega) (by omega) (fun z2 fe2 it2 c2 n2 f2 q => hk z2 fe2 it2 c2 n2 f2 ⟨_, _, q⟩)
abbrev mz_of0 (c : Nat → Int32) (k : Nat) : Nat := if c (4 * k) = nI 7 then 3 else 1
/-- an item that leads to a step leads to its first item -/
def mz_rt (ns n : Nat) (f c : Nat → Int32) (k : Nat) : Nat → Int32 := if c (4 * k) = nI 7 ∨ c (4 * k) = nI 8 then upd c (4 * k + mz_of0 c k) (if nI ns ≤ c (4 * k + mz_of0 c k) then nI n else f (c (4 * k + mz_of0 c k)).toNatClampNeg) else c
def mz_rts (ns n : Nat) (f : Nat → Int32) : Nat → Nat → (Nat → Int32) → Nat → Int32
  | 0, _, c => c
  | m + 1, k, c => mz_rts ns n f m (k + 1) (mz_rt ns n f c k)
def mz_tok (c : Nat → Int32) (k : Nat) : Prop := c (4 * k) = nI 7 ∨ c (4 * k) = nI 8 → ∃ x, x ≤ 60 ∧ c (4 * k + mz_of0 c k) = nI x
theorem mz_tok_rt {ns n i k : Nat} {f c : Nat → Int32} (h : mz_tok c k) (hik : i < k) : mz_tok (mz_rt ns n f c i) k := by
  have ho : mz_of0 c i ≤ 3 := by unfold mz_of0; split <;> omega
  have key : ∀ j, 4 * k ≤ j → mz_rt ns n f c i j = c j := by
    intro j hj
    unfold mz_rt
    split
    · simp [upd, show ¬ j = 4 * i + mz_of0 c i by omega]
    · rfl
  have e : mz_of0 (mz_rt ns n f c i) k = mz_of0 c k := by
    unfold mz_of0
    rw [key (4 * k) (Nat.le_refl _)]
  unfold mz_tok
  rw [key (4 * k) (Nat.le_refl _), e, key (4 * k + mz_of0 c k) (Nat.le_add_right _ _)]
  exact h
set_option maxRecDepth 100000 in
set_option maxHeartbeats 4000000 in
theorem ml_make2 {G : am_G} {Fn : Array Value → State → List Frame → State → Prop} (I A : Nat → Nat → Int32) (ns : Nat) (hs : I mM 2 = nI ns) (hns : ns ≤ 60) (n : Nat) (hn : A m_items 0 = nI n) (hn4 : n < 390) : ∀ (m : Nat) (k : Nat) (c : Nat → Int32), k + m = n → (∀ j, k ≤ j → j < n → mz_tok c j) → V G MX8_makeCode (am_R 4 95 0 0) Fn 0 0 150 [(0, .ref mM)] [] (hp I (upA A m_code (mz_rts ns n (A m_firstItem) m k c))) → V G MX8_makeCode (am_R 4 95 0 0) Fn 0 0 46 [(0, .ref mM), (1, .int (nI k))] [] (hp I (upA A m_code (c))) := by
  intro m
  induction m with
  | zero =>
    intro k c hi0 hi1 hk
    refine V.iload_n (j := 1) rfl dX8_makeCode_46 ?_
    refine V.aload_n (j := 0) rfl dX8_makeCode_47 ?_
    refine V.getr (q := m_items) dX8_makeCode_48 fX8_52 rfl rfl ?_
    refine V.iconst (v := nI 0) (by decide) dX8_makeCode_51 ?_
    refine V.lda (v := nI n) dX8_makeCode_52 rfl (by decide) (by decide) hn ?_
    refine V.icmp_geN (tgt := 150) dX8_makeCode_53 (by decide) (by omega) (by omega) (fun c1 => ?_) (fun c1 => ?_)
    · refine V.fewer [0] rfl ?_
      exact hk
    · exact absurd c1 (by omega)
  | succ m ih =>
    intro k c hi0 hi1 hk
    refine V.iload_n (j := 1) rfl dX8_makeCode_46 ?_
    refine V.aload_n (j := 0) rfl dX8_makeCode_47 ?_
    refine V.getr (q := m_items) dX8_makeCode_48 fX8_52 rfl rfl ?_
    refine V.iconst (v := nI 0) (by decide) dX8_makeCode_51 ?_
    refine V.lda (v := nI n) dX8_makeCode_52 rfl (by decide) (by decide) hn ?_
    refine V.icmp_geN (tgt := 150) dX8_makeCode_53 (by decide) (by omega) (by omega) (fun c2 => ?_) (fun c2 => ?_)
    · exact absurd c2 (by omega)
    · refine V.iconst (v := nI 4) (by decide) dX8_makeCode_56 ?_
      refine V.iload_n (j := 1) rfl dX8_makeCode_57 ?_
      refine V.imulN dX8_makeCode_58 ?_
      refine V.aload_n (j := 0) rfl dX8_makeCode_59 ?_
      refine V.getr (q := m_code) dX8_makeCode_60 fX8_49 rfl rfl ?_
      refine V.iconst (v := nI 4) (by decide) dX8_makeCode_63 ?_
      refine V.iload_n (j := 1) rfl dX8_makeCode_64 ?_
      refine V.imulN dX8_makeCode_65 ?_
      refine V.lda (v := c (4 * k)) dX8_makeCode_66 rfl (by omega) (by decide) rfl ?_
      refine V.bipush (v := nI 7) (by decide) dX8_makeCode_67 ?_
      have K3 : V G MX8_makeCode (am_R 4 95 0 0) Fn 0 0 77 [(0, .ref mM), (1, .int (nI k))] [.int (nI (mz_of0 c k)), .int (nI (4 * k))] (hp I (upA A m_code (c))) := by
        have hoff : mz_of0 c k ≤ 3 := by unfold mz_of0; split <;> omega
        refine V.iaddN dX8_makeCode_77 ?_
        refine V.istore_n (ls' := [(0, .ref mM), (1, .int (nI k)), (2, .int (nI ((4 * k) + (mz_of0 c k))))]) dX8_makeCode_78 (by decide) rfl ?_
        have K4 : V G MX8_makeCode (am_R 4 95 0 0) Fn 0 0 144 [(0, .ref mM), (1, .int (nI k)), (2, .int (nI ((4 * k) + (mz_of0 c k))))] [] (hp I (upA A m_code (mz_rt ns n (A m_firstItem) c k))) := by
          refine V.iincN (ls' := [(0, .ref mM), (1, .int (nI (k + 1))), (2, .int (nI ((4 * k) + (mz_of0 c k))))]) dX8_makeCode_144 (j := 1) rfl (by decide) rfl ?_
          refine V.goto (tgt := 46) dX8_makeCode_147 (by decide) ?_
          refine V.fewer [0, 1] rfl ?_
          exact ih (k + 1) _ (by omega) (fun j h1 h2 => mz_tok_rt (hi1 j (by omega) h2) (by omega)) hk
        refine V.aload_n (j := 0) rfl dX8_makeCode_79 ?_
        refine V.getr (q := m_code) dX8_makeCode_80 fX8_49 rfl rfl ?_
        refine V.iconst (v := nI 4) (by decide) dX8_makeCode_83 ?_
        refine V.iload_n (j := 1) rfl dX8_makeCode_84 ?_
        refine V.imulN dX8_makeCode_85 ?_
        refine V.lda (v := c (4 * k)) dX8_makeCode_86 rfl (by omega) (by decide) rfl ?_
        refine V.bipush (v := nI 7) (by decide) dX8_makeCode_87 ?_
        refine V.icmp_eq (tgt := 105) dX8_makeCode_89 (by decide) (fun c5 => ?_) (fun c5 => ?_)
        · obtain ⟨x, hx, ex⟩ := hi1 k (Nat.le_refl _) (by omega) (Or.inl c5)
          refine V.aload_n (j := 0) rfl dX8_makeCode_105 ?_
          refine V.getr (q := m_code) dX8_makeCode_106 fX8_49 rfl rfl ?_
          refine V.iload_n (j := 2) rfl dX8_makeCode_109 ?_
          refine V.aload_n (j := 0) rfl dX8_makeCode_110 ?_
          refine V.getr (q := m_code) dX8_makeCode_111 fX8_49 rfl rfl ?_
          refine V.iload_n (j := 2) rfl dX8_makeCode_114 ?_
          refine V.lda (v := c ((4 * k) + (mz_of0 c k))) dX8_makeCode_115 rfl (by omega) (by decide) rfl ?_
          refine V.aload_n (j := 0) rfl dX8_makeCode_116 ?_
          refine V.geti (v := nI ns) dX8_makeCode_117 fX8_95 rfl rfl hs ?_
          have K6 : V G MX8_makeCode (am_R 4 95 0 0) Fn 0 0 143 [(0, .ref mM), (1, .int (nI k)), (2, .int (nI ((4 * k) + (mz_of0 c k))))] [.int (if nI ns ≤ c (4 * k + mz_of0 c k) then nI n else (A m_firstItem) (c (4 * k + mz_of0 c k)).toNatClampNeg), .int (nI ((4 * k) + (mz_of0 c k))), .ref m_code] (hp I (upA A m_code (c))) := by
            refine V.sta (g := upd c ((4 * k) + (mz_of0 c k)) (if nI ns ≤ c (4 * k + mz_of0 c k) then nI n else (A m_firstItem) (c (4 * k + mz_of0 c k)).toNatClampNeg)) dX8_makeCode_143 rfl (by omega) (by decide) rfl ?_
            refine V.hpe (A' := (upA A m_code (upd c ((4 * k) + (mz_of0 c k)) (if nI ns ≤ c (4 * k + mz_of0 c k) then nI n else (A m_firstItem) (c (4 * k + mz_of0 c k)).toNatClampNeg)))) rfl upA_u ?_
            exact V.hpe rfl (congrArg (upA A m_code) (show _ = mz_rt ns n (A m_firstItem) c k from (if_pos (Or.inl c5)).symm)) K4
          refine V.icmp_ge (tgt := 137) dX8_makeCode_120 (by decide) (fun c7 => ?_) (fun c7 => ?_)
          · refine V.aload_n (j := 0) rfl dX8_makeCode_137 ?_
            refine V.getr (q := m_items) dX8_makeCode_138 fX8_52 rfl rfl ?_
            refine V.iconst (v := nI 0) (by decide) dX8_makeCode_141 ?_
            refine V.lda (v := nI n) dX8_makeCode_142 rfl (by decide) (by decide) hn ?_
            exact V.st (by rw [if_pos c7]) K6
          · refine V.aload_n (j := 0) rfl dX8_makeCode_123 ?_
            refine V.getr (q := m_firstItem) dX8_makeCode_124 fX8_55 rfl rfl ?_
            refine V.aload_n (j := 0) rfl dX8_makeCode_127 ?_
            refine V.getr (q := m_code) dX8_makeCode_128 fX8_49 rfl rfl ?_
            refine V.iload_n (j := 2) rfl dX8_makeCode_131 ?_
            refine V.lda (v := c ((4 * k) + (mz_of0 c k))) dX8_makeCode_132 rfl (by omega) (by decide) rfl ?_
            refine V.st (st' := [.int (nI x), .ref m_firstItem, .int (nI ((4 * k) + (mz_of0 c k))), .ref m_code]) (by rw [ex]) ?_
            refine V.lda (v := A m_firstItem x) dX8_makeCode_133 rfl (by omega) (by decide) rfl ?_
            refine V.st (st' := [.int ((A m_firstItem) (c (4 * k + mz_of0 c k)).toNatClampNeg), .int (nI ((4 * k) + (mz_of0 c k))), .ref m_code]) (by rw [ex, nI_clamp (by omega)]) ?_
            refine V.goto (tgt := 143) dX8_makeCode_134 (by decide) ?_
            exact V.st (by rw [if_neg c7]) K6
        · refine V.aload_n (j := 0) rfl dX8_makeCode_92 ?_
          refine V.getr (q := m_code) dX8_makeCode_93 fX8_49 rfl rfl ?_
          refine V.iconst (v := nI 4) (by decide) dX8_makeCode_96 ?_
          refine V.iload_n (j := 1) rfl dX8_makeCode_97 ?_
          refine V.imulN dX8_makeCode_98 ?_
          refine V.lda (v := c (4 * k)) dX8_makeCode_99 rfl (by omega) (by decide) rfl ?_
          refine V.bipush (v := nI 8) (by decide) dX8_makeCode_100 ?_
          refine V.icmp_ne (tgt := 144) dX8_makeCode_102 (by decide) (fun c8 => ?_) (fun c8 => ?_)
          · exact V.hpe rfl (congrArg (upA A m_code) (show _ = mz_rt ns n (A m_firstItem) c k from (if_neg (fun z => z.elim c5 c8)).symm)) K4
          · obtain ⟨x, hx, ex⟩ := hi1 k (Nat.le_refl _) (by omega) (Or.inr c8)
            refine V.aload_n (j := 0) rfl dX8_makeCode_105 ?_
            refine V.getr (q := m_code) dX8_makeCode_106 fX8_49 rfl rfl ?_
            refine V.iload_n (j := 2) rfl dX8_makeCode_109 ?_
            refine V.aload_n (j := 0) rfl dX8_makeCode_110 ?_
            refine V.getr (q := m_code) dX8_makeCode_111 fX8_49 rfl rfl ?_
            refine V.iload_n (j := 2) rfl dX8_makeCode_114 ?_
            refine V.lda (v := c ((4 * k) + (mz_of0 c k))) dX8_makeCode_115 rfl (by omega) (by decide) rfl ?_
            refine V.aload_n (j := 0) rfl dX8_makeCode_116 ?_
            refine V.geti (v := nI ns) dX8_makeCode_117 fX8_95 rfl rfl hs ?_
            have K9 : V G MX8_makeCode (am_R 4 95 0 0) Fn 0 0 143 [(0, .ref mM), (1, .int (nI k)), (2, .int (nI ((4 * k) + (mz_of0 c k))))] [.int (if nI ns ≤ c (4 * k + mz_of0 c k) then nI n else (A m_firstItem) (c (4 * k + mz_of0 c k)).toNatClampNeg), .int (nI ((4 * k) + (mz_of0 c k))), .ref m_code] (hp I (upA A m_code (c))) := by
              refine V.sta (g := upd c ((4 * k) + (mz_of0 c k)) (if nI ns ≤ c (4 * k + mz_of0 c k) then nI n else (A m_firstItem) (c (4 * k + mz_of0 c k)).toNatClampNeg)) dX8_makeCode_143 rfl (by omega) (by decide) rfl ?_
              refine V.hpe (A' := (upA A m_code (upd c ((4 * k) + (mz_of0 c k)) (if nI ns ≤ c (4 * k + mz_of0 c k) then nI n else (A m_firstItem) (c (4 * k + mz_of0 c k)).toNatClampNeg)))) rfl upA_u ?_
              exact V.hpe rfl (congrArg (upA A m_code) (show _ = mz_rt ns n (A m_firstItem) c k from (if_pos (Or.inr c8)).symm)) K4
            refine V.icmp_ge (tgt := 137) dX8_makeCode_120 (by decide) (fun c10 => ?_) (fun c10 => ?_)
            · refine V.aload_n (j := 0) rfl dX8_makeCode_137 ?_
              refine V.getr (q := m_items) dX8_makeCode_138 fX8_52 rfl rfl ?_
              refine V.iconst (v := nI 0) (by decide) dX8_makeCode_141 ?_
              refine V.lda (v := nI n) dX8_makeCode_142 rfl (by decide) (by decide) hn ?_
              exact V.st (by rw [if_pos c10]) K9
            · refine V.aload_n (j := 0) rfl dX8_makeCode_123 ?_
              refine V.getr (q := m_firstItem) dX8_makeCode_124 fX8_55 rfl rfl ?_
              refine V.aload_n (j := 0) rfl dX8_makeCode_127 ?_
              refine V.getr (q := m_code) dX8_makeCode_128 fX8_49 rfl rfl ?_
              refine V.iload_n (j := 2) rfl dX8_makeCode_131 ?_
              refine V.lda (v := c ((4 * k) + (mz_of0 c k))) dX8_makeCode_132 rfl (by omega) (by decide) rfl ?_
              refine V.st (st' := [.int (nI x), .ref m_firstItem, .int (nI ((4 * k) + (mz_of0 c k))), .ref m_code]) (by rw [ex]) ?_
              refine V.lda (v := A m_firstItem x) dX8_makeCode_133 rfl (by omega) (by decide) rfl ?_
              refine V.st (st' := [.int ((A m_firstItem) (c (4 * k + mz_of0 c k)).toNatClampNeg), .int (nI ((4 * k) + (mz_of0 c k))), .ref m_code]) (by rw [ex, nI_clamp (by omega)]) ?_
              refine V.goto (tgt := 143) dX8_makeCode_134 (by decide) ?_
              exact V.st (by rw [if_neg c10]) K9
      refine V.icmp_ne (tgt := 76) dX8_makeCode_69 (by decide) (fun c11 => ?_) (fun c11 => ?_)
      · refine V.iconst (v := nI 1) (by decide) dX8_makeCode_76 ?_
        exact V.st (by rw [show mz_of0 c k = 1 from if_neg c11]) K3
      · refine V.iconst (v := nI 3) (by decide) dX8_makeCode_72 ?_
        refine V.goto (tgt := 77) dX8_makeCode_73 (by decide) ?_
        exact V.st (by rw [show mz_of0 c k = 3 from if_pos c11]) K3
end
section
/-- every item that leads, leads to a number of a step -/
theorem mz_lay_at {c : Nat → Int32} {n : Nat} {o x y z : Int32} : mz_lay c n o x y z (4 * n) = o ∧ mz_lay c n o x y z (4 * n + 1) = x ∧ mz_lay c n o x y z (4 * n + 2) = y ∧ mz_lay c n o x y z (4 * n + 3) = z := by
  refine ⟨?_, ?_, ?_, ?_⟩ <;> simp [mz_lay, upd]
theorem mz_lay_lo {c : Nat → Int32} {n j : Nat} {o x y z : Int32} (h : j < 4 * n) : mz_lay c n o x y z j = c j := by
  simp [mz_lay, upd, show ¬ j = 4 * n by omega, show ¬ j = 4 * n + 1 by omega, show ¬ j = 4 * n + 2 by omega, show ¬ j = 4 * n + 3 by omega]
theorem mz_tok_c {c c' : Nat → Int32} {k : Nat} (h : mz_tok c k) (e : ∀ j, 4 * k ≤ j → j < 4 * k + 4 → c' j = c j) : mz_tok c' k := by
  have ho : mz_of0 c k ≤ 3 := by unfold mz_of0; split <;> omega
  have e1 : mz_of0 c' k = mz_of0 c k := by
    unfold mz_of0
    rw [e (4 * k) (Nat.le_refl _) (by omega)]
  unfold mz_tok
  rw [e (4 * k) (Nat.le_refl _) (by omega), e1, e (4 * k + mz_of0 c k) (by omega) (by omega)]
  exact h
theorem mz_lay_tok {c : Nat → Int32} {n : Nat} {o x y z : Int32} (h : ∀ j, j < n → mz_tok c j) (h7 : o = nI 7 → ∃ t, t ≤ 60 ∧ z = nI t) (h8 : o = nI 8 → ∃ t, t ≤ 60 ∧ x = nI t) : ∀ j, j < n + 1 → mz_tok (mz_lay c n o x y z) j := by
  intro j hj
  by_cases hjn : j = n
  · subst hjn
    obtain ⟨a1, a2, a3, a4⟩ := mz_lay_at (c := c) (n := j) (o := o) (x := x) (y := y) (z := z)
    intro q
    rw [a1] at q
    unfold mz_of0
    rw [a1]
    by_cases q7 : o = nI 7
    · rw [if_pos q7, a4]; exact h7 q7
    · rw [if_neg q7, a2]; exact h8 (q.resolve_left q7)
  · exact mz_tok_c (h j (by omega)) (fun i h1 h2 => mz_lay_lo (by omega))
def mz_Fok (F : mz_FS) : Prop := ∀ j, j < F.2.2.2.2 → mz_tok F.2.2.2.1 j
theorem mz_ft_ok {cl hm : Nat → Int32} {v : Nat} {F : mz_FS} (h : mz_Fok F) : mz_Fok (mz_ft cl hm v F) := by
  unfold mz_ft
  split
  · exact h
  · exact mz_lay_tok h (fun q => absurd q (by decide)) (fun q => absurd q (by decide))
theorem mz_f1_ok {cl hm : Nat → Int32} {v : Int32} {F : mz_FS} (h : mz_Fok F) : mz_Fok (mz_f1 cl hm v F) := by
  unfold mz_f1
  split
  · exact h
  · split
    · exact h
    · exact mz_ft_ok h
theorem mz_kp_ok {cl hm c : Nat → Int32} {v : Int32} {n : Nat} (h : ∀ j, j < n → mz_tok c j) : ∀ j, j < (mz_kp cl hm v c n).2 → mz_tok (mz_kp cl hm v c n).1 j := by
  unfold mz_kp
  split
  · exact h
  · split
    · exact h
    · exact mz_lay_tok h (fun q => absurd q (by decide)) (fun q => absurd q (by decide))
theorem mz_mk_ok {op fa fb fc cl hm fe it c : Nat → Int32} {nv s n : Nat} (hsw : mz_sw nv (op s) (fa s) (fb s) (fc s)) (h : ∀ j, j < n → mz_tok c j) : ∀ j, j < (mz_mk op fa fb fc cl hm s fe it c n).2 → mz_tok (mz_mk op fa fb fc cl hm s fe it c n).1 j := by
  by_cases hn : mz_ndl op fa fb cl hm s
  · rw [mz_mk_t hn]; exact h
  · rw [mz_mk_f hn]
    have hF : mz_Fok (mz_f2 op fa fb fc cl hm s (0, fe, it, c, n)) := mz_f1_ok (mz_f1_ok h)
    obtain ⟨k, h1, h2, -, -, -, -, h7, h8⟩ := hsw
    unfold mz_mkN
    refine mz_kp_ok (mz_lay_tok hF (fun q => ?_) (fun q => ?_))
    · rw [h2, nI_eq (by omega) (by omega)] at q
      subst q
      rw [h2, nI_clamp (by omega)]
      exact h7 rfl
    · rw [h2, nI_eq (by omega) (by omega)] at q
      subst q
      rw [h2, nI_clamp (by omega)]
      exact h8 rfl
theorem mz_cds_ok {op fa fb fc cl hm : Nat → Int32} {nv ns : Nat} (hsw : ∀ s, s < ns → mz_sw nv (op s) (fa s) (fb s) (fc s)) : ∀ (m s : Nat) (fe it c : Nat → Int32) (n : Nat) (f c' : Nat → Int32) (n' : Nat) (f' : Nat → Int32), s + m = ns → (∀ j, j < n → mz_tok c j) → mz_cds op fa fb fc cl hm m s fe it c n f c' n' f' → ∀ j, j < n' → mz_tok c' j
  | 0, s, fe, it, c, n, f, c', n', f', _, h, q => by
    obtain ⟨rfl, rfl, -⟩ := q
    exact h
  | m + 1, s, fe, it, c, n, f, c', n', f', hs, h, q => by
    obtain ⟨fe', it', q⟩ := q
    exact mz_cds_ok hsw m (s + 1) fe' it' _ _ _ c' n' f' (by omega) (mz_mk_ok (hsw s (by omega)) h) q
/-- the code is laid a second time, from place 1600 on -/
def mz_cp : Nat → Nat → (Nat → Int32) → Nat → Int32
  | 0, _, c => c
  | m + 1, k, c => mz_cp m (k + 1) (upd c (1600 + k) (c k))
/-- needless items are taken away one after another -/
def mz_tids : Nat → (Nat → Int32) → (Nat → Int32) → Nat → Prop
  | 0, c, c', n' => c' = c ∧ n' = 0
  | n + 1, c, c', n' => (mz_no (fun k => mz_gone c (n + 1) k) (n + 1) ∧ c' = c ∧ n' = n + 1) ∨ ∃ i, i < n + 1 ∧ mz_gone c (n + 1) i ∧ mz_no (fun k => mz_gone c (n + 1) k) i ∧ mz_tids n (mz_take c n i) c' n'
set_option maxRecDepth 100000 in
set_option maxHeartbeats 4000000 in
theorem ml_make3 {G : am_G} {Fn : Array Value → State → List Frame → State → Prop} (I A : Nat → Nat → Int32) (n : Nat) (hn : A m_items 0 = nI n) (hn4 : n < 390) : ∀ (m : Nat) (k : Nat) (c : Nat → Int32), k + m = 4 * n → V G MX8_makeCode (am_R 4 95 0 0) Fn 0 0 198 [(0, .ref mM)] [] (hp I (upA A m_code (mz_cp m k c))) → V G MX8_makeCode (am_R 4 95 0 0) Fn 0 0 164 [(0, .ref mM), (1, .int (nI k))] [] (hp I (upA A m_code (c))) := by
  intro m
  induction m with
  | zero =>
    intro k c hi0 hk
    refine V.iload_n (j := 1) rfl dX8_makeCode_164 ?_
    refine V.iconst (v := nI 4) (by decide) dX8_makeCode_165 ?_
    refine V.aload_n (j := 0) rfl dX8_makeCode_166 ?_
    refine V.getr (q := m_items) dX8_makeCode_167 fX8_52 rfl rfl ?_
    refine V.iconst (v := nI 0) (by decide) dX8_makeCode_170 ?_
    refine V.lda (v := nI n) dX8_makeCode_171 rfl (by decide) (by decide) hn ?_
    refine V.imulN dX8_makeCode_172 ?_
    refine V.icmp_geN (tgt := 198) dX8_makeCode_173 (by decide) (by omega) (by omega) (fun c1 => ?_) (fun c1 => ?_)
    · refine V.fewer [0] rfl ?_
      exact hk
    · exact absurd c1 (by omega)
  | succ m ih =>
    intro k c hi0 hk
    refine V.iload_n (j := 1) rfl dX8_makeCode_164 ?_
    refine V.iconst (v := nI 4) (by decide) dX8_makeCode_165 ?_
    refine V.aload_n (j := 0) rfl dX8_makeCode_166 ?_
    refine V.getr (q := m_items) dX8_makeCode_167 fX8_52 rfl rfl ?_
    refine V.iconst (v := nI 0) (by decide) dX8_makeCode_170 ?_
    refine V.lda (v := nI n) dX8_makeCode_171 rfl (by decide) (by decide) hn ?_
    refine V.imulN dX8_makeCode_172 ?_
    refine V.icmp_geN (tgt := 198) dX8_makeCode_173 (by decide) (by omega) (by omega) (fun c2 => ?_) (fun c2 => ?_)
    · exact absurd c2 (by omega)
    · refine V.aload_n (j := 0) rfl dX8_makeCode_176 ?_
      refine V.getr (q := m_code) dX8_makeCode_177 fX8_49 rfl rfl ?_
      refine V.sipush (v := nI 1600) (by decide) dX8_makeCode_180 ?_
      refine V.iload_n (j := 1) rfl dX8_makeCode_183 ?_
      refine V.iaddN dX8_makeCode_184 ?_
      refine V.aload_n (j := 0) rfl dX8_makeCode_185 ?_
      refine V.getr (q := m_code) dX8_makeCode_186 fX8_49 rfl rfl ?_
      refine V.iload_n (j := 1) rfl dX8_makeCode_189 ?_
      refine V.lda (v := c k) dX8_makeCode_190 rfl (by omega) (by decide) rfl ?_
      refine V.sta (g := upd c (1600 + k) (c k)) dX8_makeCode_191 rfl (by omega) (by decide) rfl ?_
      refine V.hpe (A' := (upA A m_code (upd c (1600 + k) (c k)))) rfl upA_u ?_
      refine V.iincN (ls' := [(0, .ref mM), (1, .int (nI (k + 1)))]) dX8_makeCode_192 (j := 1) rfl (by decide) rfl ?_
      refine V.goto (tgt := 164) dX8_makeCode_195 (by decide) ?_
      exact ih (k + 1) _ (by omega) hk
set_option maxRecDepth 100000 in
set_option maxHeartbeats 4000000 in
theorem ml_make4 {G : am_G} {Fn : Array Value → State → List Frame → State → Prop} (I A : Nat → Nat → Int32) (t : Nat → Int32) : ∀ (n : Nat) (c : Nat → Int32) (x : Int32), n < 390 → ((∃ j0, x = nI j0 ∧ j0 < n ∧ mz_gone c n j0 ∧ mz_no (fun k => mz_gone c n k) j0) ∨ (x = (-1) ∧ mz_no (fun k => mz_gone c n k) n)) → (∀ c' n', mz_tids n c c' n' → V G MX8_makeCode (am_R 4 95 0 0) Fn 0 0 221 [(0, .ref mM)] [] (hp I (upA (upA A m_items (upd t 1 (nI n'))) m_code c'))) → V G MX8_makeCode (am_R 4 95 0 0) Fn 0 0 203 [(0, .ref mM), (1, .int x)] [] (hp I (upA (upA A m_items (upd t 1 (nI n))) m_code c)) := by
  intro n
  induction n with
  | zero =>
    intro c x hn hd hk
    rcases hd with ⟨i, -, h, -⟩ | ⟨rfl, -⟩
    · exact absurd h (Nat.not_lt_zero _)
    · refine V.iload_n (j := 1) rfl dX8_makeCode_203 ?_
      refine V.iconst (v := (-1)) (by decide) dX8_makeCode_204 ?_
      refine V.icmp_eq (tgt := 221) dX8_makeCode_205 (by decide) (fun _ => ?_) (fun z => absurd rfl z)
      refine V.fewer [0] rfl ?_
      exact hk c 0 ⟨rfl, rfl⟩
  | succ n ih =>
    intro c x hn hd hk
    rcases hd with ⟨i, rfl, h1, h2, h3⟩ | ⟨rfl, h1⟩
    · refine V.iload_n (j := 1) rfl dX8_makeCode_203 ?_
      refine V.iconst (v := (-1)) (by decide) dX8_makeCode_204 ?_
      refine V.icmp_eq (tgt := 221) dX8_makeCode_205 (by decide) (fun z => absurd z (nI_nm1 (by omega))) (fun _ => ?_)
      refine V.aload_n (j := 0) rfl dX8_makeCode_208 ?_
      refine V.iload_n (j := 1) rfl dX8_makeCode_209 ?_
      refine V.cV (As := [.int (nI i)]) (st := []) dX8_makeCode_210 sX8_157 iX8_take lX8_take rfl rfl (md_take I (upA (upA A m_items (upd t 1 (nI (n + 1)))) m_code c) n rfl (by omega) i (by omega)) ⟨by decide, by decide⟩ (Nat.le_of_ble_eq_true rfl) rfl (fun r I' A' hq => ?_)
      obtain ⟨rfl, rfl, rfl⟩ := hq
      refine V.st (st' := []) rfl ?_
      refine V.hpe (A' := (upA (upA A m_items (upd t 1 (nI n))) m_code (mz_take c n i))) rfl (by rw [upA_r2 (a := m_items) (b := m_code) (by decide), upA_u, show ((upA (upA A m_items (upd t 1 (nI (n + 1)))) m_code c)) m_items = upd t 1 (nI (n + 1)) from rfl, upd_u]; rfl) ?_
      refine V.aload_n (j := 0) rfl dX8_makeCode_213 ?_
      refine V.cV (As := []) (st := []) dX8_makeCode_214 sX8_153 iX8_needless lX8_needless rfl rfl (md_needless I (upA (upA A m_items (upd t 1 (nI n))) m_code (mz_take c n i)) n rfl (by omega)) ⟨by decide, by decide⟩ (Nat.le_of_ble_eq_true rfl) rfl (fun r I' A' hq => ?_)
      obtain ⟨hr, rfl, rfl⟩ := hq
      have hr2 : ∃ y : Int32, r = some (.int y) ∧ ((∃ j0, y = nI j0 ∧ j0 < n ∧ mz_gone (mz_take c n i) n j0 ∧ mz_no (fun k => mz_gone (mz_take c n i) n k) j0) ∨ (y = (-1) ∧ mz_no (fun k => mz_gone (mz_take c n i) n k) n)) := by
        rcases hr with ⟨j, e, h4⟩ | ⟨e, h4⟩
        · exact ⟨nI j, e, Or.inl ⟨j, rfl, h4⟩⟩
        · exact ⟨-1, e, Or.inr ⟨rfl, h4⟩⟩
      obtain ⟨y, rfl, hy⟩ := hr2
      refine V.st (st' := [.int y]) rfl ?_
      refine V.istore_n (ls' := [(0, .ref mM), (1, .int y)]) dX8_makeCode_217 (by decide) rfl ?_
      refine V.goto (tgt := 203) dX8_makeCode_218 (by decide) ?_
      exact ih _ y (by omega) hy (fun c' n' q => hk c' n' (Or.inr ⟨i, h1, h2, h3, q⟩))
    · refine V.iload_n (j := 1) rfl dX8_makeCode_203 ?_
      refine V.iconst (v := (-1)) (by decide) dX8_makeCode_204 ?_
      refine V.icmp_eq (tgt := 221) dX8_makeCode_205 (by decide) (fun _ => ?_) (fun z => absurd rfl z)
      refine V.fewer [0] rfl ?_
      exact hk c (n + 1) (Or.inl ⟨h1, rfl, rfl⟩)
end
section
theorem upA_ii {A : Nat → Nat → Int32} {a : Nat} {f : Nat → Int32} (h : A a = f) : upA A a f = A := by subst h; exact upA_i
/-- what settle leaves alone -/
theorem mz_stl_k {nv ns : Nat} {A A1 : Nat → Nat → Int32} (h : mz_stl nv ns A A1) : A1 m_ops = A m_ops ∧ A1 m_first = A m_first ∧ A1 m_second = A m_second ∧ A1 m_third = A m_third ∧ A1 m_classes = A m_classes ∧ A1 m_registers = A m_registers := by
  obtain ⟨k, hm, -, -, rfl⟩ := h
  exact ⟨rfl, rfl, rfl, rfl, rfl, rfl⟩
/-- what makeCode leaves -/
noncomputable def mz_made (nv ns : Nat) (I A I' A' : Nat → Nat → Int32) : Prop := ∃ (A1 : Nat → Nat → Int32) (z : Int32) (fe it c : Nat → Int32) (n : Nat) (f c' : Nat → Int32) (n' : Nat), mz_stl nv ns A A1 ∧ mz_cds (A1 m_ops) (A1 m_first) (A1 m_second) (A1 m_third) (A1 m_classes) (A1 m_homes) ns 0 (A1 m_fetches) (A1 m_into) (A1 m_code) 0 (A1 m_firstItem) c n f ∧ n ≤ 4 * ns ∧ mz_tids n (mz_cp (4 * n) 0 (mz_rts ns n f n 0 c)) c' n' ∧ (upI I mM 25 z) = I' ∧ upA (upA (upA (mz_FA A1 (A1 m_items) (0, fe, it, c, n)) m_firstItem f) m_items (upd (upd (A1 m_items) 0 (nI n)) 1 (nI n'))) m_code c' = A'
set_option maxRecDepth 100000 in
set_option maxHeartbeats 4000000 in
theorem md_makeCode {G : am_G} (I A : Nat → Nat → Int32) (nv ns : Nat) (hW : mz_wf nv ns I A) (hsw : ∀ s, s < ns → mz_sw nv (A m_ops s) (A m_first s) (A m_second s) (A m_third s)) : Cm G MX8_makeCode 4 95 [.ref mM] I A (fun r I' A' => r = none ∧ mz_made nv ns I A I' A') := by
  refine Cm.of (by decide) (Nat.le_of_ble_eq_true rfl) rfl ?_
  show V G MX8_makeCode (am_R 4 95 0 0) _ 0 0 0 [(0, .ref mM)] [] (hp I A)
  refine V.aload_n (j := 0) rfl dX8_makeCode_0 ?_
  refine V.cV (As := []) (st := []) dX8_makeCode_1 sX8_147 iX8_settle lX8_settle rfl rfl (md_settle I A nv ns hW) ⟨by decide, by decide⟩ (Nat.le_of_ble_eq_true rfl) rfl (fun r I' A1 hq => ?_)
  obtain ⟨rfl, rfl, hst⟩ := hq
  obtain ⟨hn, hnv, hs, hns, -⟩ := hW
  obtain ⟨e1, e2, e3, e4, -, -⟩ := mz_stl_k hst
  have hsw1 : ∀ s, s < ns → mz_sw nv (A1 m_ops s) (A1 m_first s) (A1 m_second s) (A1 m_third s) := by
    rw [e1, e2, e3, e4]; exact hsw
  refine V.st (st' := []) rfl ?_
  refine V.aload_n (j := 0) rfl dX8_makeCode_4 ?_
  refine V.getr (q := m_items) dX8_makeCode_5 fX8_52 rfl rfl ?_
  refine V.iconst (v := nI 0) (by decide) dX8_makeCode_8 ?_
  refine V.iconst (v := nI 0) (by decide) dX8_makeCode_9 ?_
  refine V.sta (g := upd (A1 m_items) 0 (nI 0)) dX8_makeCode_10 rfl (by decide) (by decide) rfl ?_
  refine V.iconst (v := nI 0) (by decide) dX8_makeCode_11 ?_
  refine V.istore_n (ls' := [(0, .ref mM), (1, .int (nI 0))]) dX8_makeCode_12 (by decide) rfl ?_
  refine V.hpe (I' := (upI I mM 25 (I mM 25))) (A' := (upA (mz_FA A1 (A1 m_items) (0, A1 m_fetches, A1 m_into, A1 m_code, 0)) m_firstItem (A1 m_firstItem))) upI_i.symm (by
    rw [show A1 m_firstItem = (mz_FA A1 (A1 m_items) (0, A1 m_fetches, A1 m_into, A1 m_code, 0)) m_firstItem from rfl, upA_i]
    unfold mz_FA
    dsimp only
    rw [upA_i, upA_i, upA_i]) ?_
  refine ml_make1 I A1 nv ns hs hns hnv hsw1 (A1 m_items) ns 0 (I mM 25) (A1 m_fetches) (A1 m_into) (A1 m_code) 0 (A1 m_firstItem) (by omega) (by omega) (fun z fe it c n f hc hle => ?_)
  refine V.iconst (v := nI 0) (by decide) dX8_makeCode_44 ?_
  refine V.istore_n (ls' := [(0, .ref mM), (1, .int (nI 0))]) dX8_makeCode_45 (by decide) rfl ?_
  refine V.hpe (A' := (upA (upA (mz_FA A1 (A1 m_items) (0, fe, it, c, n)) m_firstItem f) m_code c)) rfl (upA_ii (A := (upA (mz_FA A1 (A1 m_items) (0, fe, it, c, n)) m_firstItem f)) (a := m_code) (f := c) rfl).symm ?_
  refine ml_make2 (upI I mM 25 z) (upA (mz_FA A1 (A1 m_items) (0, fe, it, c, n)) m_firstItem f) ns hs hns n rfl (by omega) n 0 c (by omega) (fun j _ hj => mz_cds_ok hsw1 ns 0 _ _ _ _ _ _ _ _ (by omega) (fun j hj => absurd hj (Nat.not_lt_zero _)) hc j hj) ?_
  refine V.aload_n (j := 0) rfl dX8_makeCode_150 ?_
  refine V.getr (q := m_items) dX8_makeCode_151 fX8_52 rfl rfl ?_
  refine V.iconst (v := nI 1) (by decide) dX8_makeCode_154 ?_
  refine V.aload_n (j := 0) rfl dX8_makeCode_155 ?_
  refine V.getr (q := m_items) dX8_makeCode_156 fX8_52 rfl rfl ?_
  refine V.iconst (v := nI 0) (by decide) dX8_makeCode_159 ?_
  refine V.lda (v := nI n) dX8_makeCode_160 rfl (by decide) (by decide) rfl ?_
  refine V.sta (g := upd (upd (A1 m_items) 0 (nI n)) 1 (nI n)) dX8_makeCode_161 rfl (by decide) (by decide) rfl ?_
  refine V.iconst (v := nI 0) (by decide) dX8_makeCode_162 ?_
  refine V.istore_n (ls' := [(0, .ref mM), (1, .int (nI 0))]) dX8_makeCode_163 (by decide) rfl ?_
  refine V.hpe (A' := (upA (upA (upA (mz_FA A1 (A1 m_items) (0, fe, it, c, n)) m_firstItem f) m_items (upd (upd (A1 m_items) 0 (nI n)) 1 (nI n))) m_code (mz_rts ns n f n 0 c))) rfl (upA_c (by decide)) ?_
  refine ml_make3 (upI I mM 25 z) (upA (upA (mz_FA A1 (A1 m_items) (0, fe, it, c, n)) m_firstItem f) m_items (upd (upd (A1 m_items) 0 (nI n)) 1 (nI n))) n rfl (by omega) (4 * n) 0 (mz_rts ns n f n 0 c) (by omega) ?_
  refine V.aload_n (j := 0) rfl dX8_makeCode_198 ?_
  refine V.cV (As := []) (st := []) dX8_makeCode_199 sX8_153 iX8_needless lX8_needless rfl rfl (md_needless (upI I mM 25 z) (upA (upA (upA (mz_FA A1 (A1 m_items) (0, fe, it, c, n)) m_firstItem f) m_items (upd (upd (A1 m_items) 0 (nI n)) 1 (nI n))) m_code (mz_cp (4 * n) 0 (mz_rts ns n f n 0 c))) n rfl (by omega)) ⟨by decide, by decide⟩ (Nat.le_of_ble_eq_true rfl) rfl (fun r I' A' hq => ?_)
  obtain ⟨hr, rfl, rfl⟩ := hq
  have hr2 : ∃ y : Int32, r = some (.int y) ∧ ((∃ j0, y = nI j0 ∧ j0 < n ∧ mz_gone (mz_cp (4 * n) 0 (mz_rts ns n f n 0 c)) n j0 ∧ mz_no (fun k => mz_gone (mz_cp (4 * n) 0 (mz_rts ns n f n 0 c)) n k) j0) ∨ (y = (-1) ∧ mz_no (fun k => mz_gone (mz_cp (4 * n) 0 (mz_rts ns n f n 0 c)) n k) n)) := by
    rcases hr with ⟨j, e, h4⟩ | ⟨e, h4⟩
    · exact ⟨nI j, e, Or.inl ⟨j, rfl, h4⟩⟩
    · exact ⟨-1, e, Or.inr ⟨rfl, h4⟩⟩
  obtain ⟨y, rfl, hy⟩ := hr2
  refine V.st (st' := [.int y]) rfl ?_
  refine V.istore_n (ls' := [(0, .ref mM), (1, .int y)]) dX8_makeCode_202 (by decide) rfl ?_
  refine ml_make4 (upI I mM 25 z) (upA (mz_FA A1 (A1 m_items) (0, fe, it, c, n)) m_firstItem f) (upd (A1 m_items) 0 (nI n)) n (mz_cp (4 * n) 0 (mz_rts ns n f n 0 c)) y (by omega) hy (fun c' n' q => ?_)
  refine V.rv dX8_makeCode_221 rfl ?_
  exact ⟨rfl, A1, z, fe, it, c, n, f, c', n', hst, hc, hle, q, rfl, rfl⟩
end
section
def mz_in (n : Nat) (x : Int32) : Prop := ¬ x < 0 ∧ x < nI n
set_option maxRecDepth 100000 in
set_option maxHeartbeats 4000000 in
theorem md_live {G : am_G} (I A : Nat → Nat → Int32) (nv ns : Nat) (hW : mz_wf nv ns I A) (x : Int32) : Cm G MX8_live 3 73 [.ref mM, .int x] I A (fun r I' A' => (mz_in ns x → ∃ k, mz_fm ns A k = nI 0 ∧ r = some (.int ((mz_fl ns A k).1 x.toNatClampNeg)) ∧ I = I' ∧ upA (upA A m_before (mz_fl ns A k).1) m_behind (mz_fl ns A k).2 = A') ∧ (¬ mz_in ns x → r = some (.int (-1)) ∧ I = I' ∧ A = A')) := by
  refine Cm.of (by decide) (Nat.le_of_ble_eq_true rfl) rfl ?_
  show V G MX8_live (am_R 3 73 0 0) _ 0 0 0 [(0, .ref mM), (1, .int x)] [] (hp I A)
  obtain ⟨hn, hnv, hs, hns, h8, h7, hA, h0, h1, hcl, hrg, hT⟩ := id hW
  refine V.iload_n (j := 1) rfl dX8_live_0 ?_
  refine V.if_lt (tgt := 12) dX8_live_1 (by decide) (fun c1 => ?_) (fun c1 => ?_)
  · refine V.iconst (v := (-1)) (by decide) dX8_live_12 ?_
    refine V.ri dX8_live_13 rfl ?_
    exact ⟨fun z => by obtain ⟨z1, z2⟩ := z; contradiction, fun _ => ⟨rfl, rfl, rfl⟩⟩
  · refine V.iload_n (j := 1) rfl dX8_live_4 ?_
    refine V.aload_n (j := 0) rfl dX8_live_5 ?_
    refine V.geti (v := nI ns) dX8_live_6 fX8_95 rfl rfl hs ?_
    refine V.icmp_lt (tgt := 14) dX8_live_9 (by decide) (fun c2 => ?_) (fun c2 => ?_)
    · obtain ⟨j, hj, rfl⟩ := mz_lt (nv := ns) (by omega) c1 c2
      refine V.aload_n (j := 0) rfl dX8_live_14 ?_
      refine V.cV (As := []) (st := []) dX8_live_15 sX8_118 iX8_flow lX8_flow rfl rfl (md_flow I A ns hs hns h8 h7 hT) ⟨by decide, by decide⟩ (Nat.le_of_ble_eq_true rfl) rfl (fun r I' A' hq => ?_)
      obtain ⟨rfl, rfl, kf, hkf, rfl⟩ := hq
      refine V.st (st' := []) rfl ?_
      refine V.aload_n (j := 0) rfl dX8_live_18 ?_
      refine V.getr (q := m_before) dX8_live_19 fX8_31 rfl rfl ?_
      refine V.iload_n (j := 1) rfl dX8_live_22 ?_
      refine V.lda (v := ((mz_fl ns A kf).1) j) dX8_live_23 rfl (by omega) (by decide) rfl ?_
      refine V.ri dX8_live_24 rfl ?_
      exact ⟨fun _ => ⟨kf, hkf, by rw [nI_clamp (by omega)], rfl, rfl⟩, fun z => absurd ⟨c1, c2⟩ z⟩
    · refine V.iconst (v := (-1)) (by decide) dX8_live_12 ?_
      refine V.ri dX8_live_13 rfl ?_
      exact ⟨fun z => by obtain ⟨z1, z2⟩ := z; contradiction, fun _ => ⟨rfl, rfl, rfl⟩⟩
set_option maxRecDepth 100000 in
set_option maxHeartbeats 4000000 in
theorem md_inWay {G : am_G} (I A : Nat → Nat → Int32) (nv ns : Nat) (hW : mz_wf nv ns I A) (x : Int32) : Cm G MX8_inWay 3 73 [.ref mM, .int x] I A (fun r I' A' => (mz_isV (nI nv) x → ∃ k, mz_fm ns A k = nI 0 ∧ r = some (.int ((mz_W nv ns A (mz_fl ns A k).2) x.toNatClampNeg)) ∧ I = I' ∧ upA (upA (upA (upA A m_before (mz_fl ns A k).1) m_behind (mz_fl ns A k).2) m_way (mz_W nv ns A (mz_fl ns A k).2)) m_weights (mz_G nv ns A) = A') ∧ (¬ mz_isV (nI nv) x → r = some (.int (-1)) ∧ I = I' ∧ A = A')) := by
  refine Cm.of (by decide) (Nat.le_of_ble_eq_true rfl) rfl ?_
  show V G MX8_inWay (am_R 3 73 0 0) _ 0 0 0 [(0, .ref mM), (1, .int x)] [] (hp I A)
  obtain ⟨hn, hnv, hs, hns, h8, h7, hA, h0, h1, hcl, hrg, hT⟩ := id hW
  refine V.aload_n (j := 0) rfl dX8_inWay_0 ?_
  refine V.iload_n (j := 1) rfl dX8_inWay_1 ?_
  refine V.cV (As := [.int x]) (st := []) dX8_inWay_2 sX8_83 iX8_isValue lX8_isValue rfl rfl (md_isV I A nv hn _) ⟨by decide, by decide⟩ (Nat.le_of_ble_eq_true rfl) rfl (fun r I' A' hq => ?_)
  obtain ⟨rfl, rfl, rfl⟩ := hq
  by_cases b1 : mz_isV (nI nv) x
  · refine V.st (st' := [.int (nI 1)]) (by rw [bI_t b1]; rfl) ?_
    obtain ⟨j, hj, rfl⟩ := mz_nat (show nv < 2 ^ 31 by omega) b1
    refine V.if_ne (tgt := 10) dX8_inWay_5 (by decide) (fun _ => ?_) (fun z => absurd z (by decide))
    refine V.aload_n (j := 0) rfl dX8_inWay_10 ?_
    refine V.cV (As := []) (st := []) dX8_inWay_11 sX8_118 iX8_flow lX8_flow rfl rfl (md_flow I A ns hs hns h8 h7 hT) ⟨by decide, by decide⟩ (Nat.le_of_ble_eq_true rfl) rfl (fun r I' A' hq => ?_)
    obtain ⟨rfl, rfl, kf, hkf, rfl⟩ := hq
    refine V.st (st' := []) rfl ?_
    refine V.aload_n (j := 0) rfl dX8_inWay_14 ?_
    refine V.cV (As := []) (st := []) dX8_inWay_15 sX8_121 iX8_meet lX8_meet rfl rfl (md_meet I (upA (upA A m_before ((mz_fl ns A kf).1)) m_behind ((mz_fl ns A kf).2)) nv hn hnv ns hs hns hA h0 h1) ⟨by decide, by decide⟩ (Nat.le_of_ble_eq_true rfl) rfl (fun r I' A' hq => ?_)
    obtain ⟨rfl, rfl, rfl⟩ := hq
    refine V.st (st' := []) rfl ?_
    refine V.aload_n (j := 0) rfl dX8_inWay_18 ?_
    refine V.getr (q := m_way) dX8_inWay_19 fX8_37 rfl rfl ?_
    refine V.iload_n (j := 1) rfl dX8_inWay_22 ?_
    refine V.lda (v := (mz_W nv ns A (mz_fl ns A kf).2) j) dX8_inWay_23 rfl (by omega) (by decide) rfl ?_
    refine V.ri dX8_inWay_24 rfl ?_
    exact ⟨fun _ => ⟨kf, hkf, by rw [nI_clamp (by omega)], rfl, rfl⟩, fun z => absurd b1 z⟩
  · refine V.st (st' := [.int (nI 0)]) (by rw [bI_f b1]; rfl) ?_
    refine V.if_ne (tgt := 10) dX8_inWay_5 (by decide) (fun z => absurd z (by decide)) (fun _ => ?_)
    refine V.iconst (v := (-1)) (by decide) dX8_inWay_8 ?_
    refine V.ri dX8_inWay_9 rfl ?_
    exact ⟨fun z => absurd z b1, fun _ => ⟨rfl, rfl, rfl⟩⟩
set_option maxRecDepth 100000 in
set_option maxHeartbeats 4000000 in
theorem md_weight {G : am_G} (I A : Nat → Nat → Int32) (nv ns : Nat) (hW : mz_wf nv ns I A) (x : Int32) : Cm G MX8_weight 3 73 [.ref mM, .int x] I A (fun r I' A' => (mz_isV (nI nv) x → ∃ k, mz_fm ns A k = nI 0 ∧ r = some (.int ((mz_G nv ns A) x.toNatClampNeg)) ∧ I = I' ∧ upA (upA (upA (upA A m_before (mz_fl ns A k).1) m_behind (mz_fl ns A k).2) m_way (mz_W nv ns A (mz_fl ns A k).2)) m_weights (mz_G nv ns A) = A') ∧ (¬ mz_isV (nI nv) x → r = some (.int (-1)) ∧ I = I' ∧ A = A')) := by
  refine Cm.of (by decide) (Nat.le_of_ble_eq_true rfl) rfl ?_
  show V G MX8_weight (am_R 3 73 0 0) _ 0 0 0 [(0, .ref mM), (1, .int x)] [] (hp I A)
  obtain ⟨hn, hnv, hs, hns, h8, h7, hA, h0, h1, hcl, hrg, hT⟩ := id hW
  refine V.aload_n (j := 0) rfl dX8_weight_0 ?_
  refine V.iload_n (j := 1) rfl dX8_weight_1 ?_
  refine V.cV (As := [.int x]) (st := []) dX8_weight_2 sX8_83 iX8_isValue lX8_isValue rfl rfl (md_isV I A nv hn _) ⟨by decide, by decide⟩ (Nat.le_of_ble_eq_true rfl) rfl (fun r I' A' hq => ?_)
  obtain ⟨rfl, rfl, rfl⟩ := hq
  by_cases b1 : mz_isV (nI nv) x
  · refine V.st (st' := [.int (nI 1)]) (by rw [bI_t b1]; rfl) ?_
    obtain ⟨j, hj, rfl⟩ := mz_nat (show nv < 2 ^ 31 by omega) b1
    refine V.if_ne (tgt := 10) dX8_weight_5 (by decide) (fun _ => ?_) (fun z => absurd z (by decide))
    refine V.aload_n (j := 0) rfl dX8_weight_10 ?_
    refine V.cV (As := []) (st := []) dX8_weight_11 sX8_118 iX8_flow lX8_flow rfl rfl (md_flow I A ns hs hns h8 h7 hT) ⟨by decide, by decide⟩ (Nat.le_of_ble_eq_true rfl) rfl (fun r I' A' hq => ?_)
    obtain ⟨rfl, rfl, kf, hkf, rfl⟩ := hq
    refine V.st (st' := []) rfl ?_
    refine V.aload_n (j := 0) rfl dX8_weight_14 ?_
    refine V.cV (As := []) (st := []) dX8_weight_15 sX8_121 iX8_meet lX8_meet rfl rfl (md_meet I (upA (upA A m_before ((mz_fl ns A kf).1)) m_behind ((mz_fl ns A kf).2)) nv hn hnv ns hs hns hA h0 h1) ⟨by decide, by decide⟩ (Nat.le_of_ble_eq_true rfl) rfl (fun r I' A' hq => ?_)
    obtain ⟨rfl, rfl, rfl⟩ := hq
    refine V.st (st' := []) rfl ?_
    refine V.aload_n (j := 0) rfl dX8_weight_18 ?_
    refine V.getr (q := m_weights) dX8_weight_19 fX8_40 rfl rfl ?_
    refine V.iload_n (j := 1) rfl dX8_weight_22 ?_
    refine V.lda (v := (mz_G nv ns A) j) dX8_weight_23 rfl (by omega) (by decide) rfl ?_
    refine V.ri dX8_weight_24 rfl ?_
    exact ⟨fun _ => ⟨kf, hkf, by rw [nI_clamp (by omega)], rfl, rfl⟩, fun z => absurd b1 z⟩
  · refine V.st (st' := [.int (nI 0)]) (by rw [bI_f b1]; rfl) ?_
    refine V.if_ne (tgt := 10) dX8_weight_5 (by decide) (fun z => absurd z (by decide)) (fun _ => ?_)
    refine V.iconst (v := (-1)) (by decide) dX8_weight_8 ?_
    refine V.ri dX8_weight_9 rfl ?_
    exact ⟨fun z => absurd z b1, fun _ => ⟨rfl, rfl, rfl⟩⟩
set_option maxRecDepth 100000 in
set_option maxHeartbeats 4000000 in
theorem md_home {G : am_G} (I A : Nat → Nat → Int32) (nv ns : Nat) (hW : mz_wf nv ns I A) (x : Int32) : Cm G MX8_home 4 95 [.ref mM, .int x] I A (fun r I' A' => (mz_isV (nI nv) x → r = some (.int (A' m_homes x.toNatClampNeg)) ∧ I = I' ∧ mz_stl nv ns A A') ∧ (¬ mz_isV (nI nv) x → r = some (.int (-1)) ∧ I = I' ∧ A = A')) := by
  refine Cm.of (by decide) (Nat.le_of_ble_eq_true rfl) rfl ?_
  show V G MX8_home (am_R 4 95 0 0) _ 0 0 0 [(0, .ref mM), (1, .int x)] [] (hp I A)
  obtain ⟨hn, hnv, hs, hns, h8, h7, hA, h0, h1, hcl, hrg, hT⟩ := id hW
  refine V.aload_n (j := 0) rfl dX8_home_0 ?_
  refine V.iload_n (j := 1) rfl dX8_home_1 ?_
  refine V.cV (As := [.int x]) (st := []) dX8_home_2 sX8_83 iX8_isValue lX8_isValue rfl rfl (md_isV I A nv hn _) ⟨by decide, by decide⟩ (Nat.le_of_ble_eq_true rfl) rfl (fun r I' A' hq => ?_)
  obtain ⟨rfl, rfl, rfl⟩ := hq
  by_cases b1 : mz_isV (nI nv) x
  · refine V.st (st' := [.int (nI 1)]) (by rw [bI_t b1]; rfl) ?_
    obtain ⟨j, hj, rfl⟩ := mz_nat (show nv < 2 ^ 31 by omega) b1
    refine V.if_ne (tgt := 10) dX8_home_5 (by decide) (fun _ => ?_) (fun z => absurd z (by decide))
    refine V.aload_n (j := 0) rfl dX8_home_10 ?_
    refine V.cV (As := []) (st := []) dX8_home_11 sX8_147 iX8_settle lX8_settle rfl rfl (md_settle I A nv ns hW) ⟨by decide, by decide⟩ (Nat.le_of_ble_eq_true rfl) rfl (fun r I' A' hq => ?_)
    obtain ⟨rfl, rfl, hst⟩ := hq
    refine V.st (st' := []) rfl ?_
    refine V.aload_n (j := 0) rfl dX8_home_14 ?_
    refine V.getr (q := m_homes) dX8_home_15 fX8_46 rfl rfl ?_
    refine V.iload_n (j := 1) rfl dX8_home_18 ?_
    refine V.lda (v := A' m_homes j) dX8_home_19 rfl (by omega) (by decide) rfl ?_
    refine V.ri dX8_home_20 rfl ?_
    exact ⟨fun _ => ⟨by rw [nI_clamp (by omega)], rfl, hst⟩, fun z => absurd b1 z⟩
  · refine V.st (st' := [.int (nI 0)]) (by rw [bI_f b1]; rfl) ?_
    refine V.if_ne (tgt := 10) dX8_home_5 (by decide) (fun z => absurd z (by decide)) (fun _ => ?_)
    refine V.iconst (v := (-1)) (by decide) dX8_home_8 ?_
    refine V.ri dX8_home_9 rfl ?_
    exact ⟨fun z => absurd z b1, fun _ => ⟨rfl, rfl, rfl⟩⟩
set_option maxRecDepth 100000 in
set_option maxHeartbeats 4000000 in
theorem md_order {G : am_G} (I A : Nat → Nat → Int32) (nv ns : Nat) (hW : mz_wf nv ns I A) (x : Int32) : Cm G MX8_order 4 95 [.ref mM, .int x] I A (fun r I' A' => (mz_in nv x → r = some (.int (A' m_order x.toNatClampNeg)) ∧ I = I' ∧ mz_stl nv ns A A') ∧ (¬ mz_in nv x → r = some (.int (-1)) ∧ I = I' ∧ A = A')) := by
  refine Cm.of (by decide) (Nat.le_of_ble_eq_true rfl) rfl ?_
  show V G MX8_order (am_R 4 95 0 0) _ 0 0 0 [(0, .ref mM), (1, .int x)] [] (hp I A)
  obtain ⟨hn, hnv, hs, hns, h8, h7, hA, h0, h1, hcl, hrg, hT⟩ := id hW
  refine V.iload_n (j := 1) rfl dX8_order_0 ?_
  refine V.if_lt (tgt := 12) dX8_order_1 (by decide) (fun c1 => ?_) (fun c1 => ?_)
  · refine V.iconst (v := (-1)) (by decide) dX8_order_12 ?_
    refine V.ri dX8_order_13 rfl ?_
    exact ⟨fun z => by obtain ⟨z1, z2⟩ := z; contradiction, fun _ => ⟨rfl, rfl, rfl⟩⟩
  · refine V.iload_n (j := 1) rfl dX8_order_4 ?_
    refine V.aload_n (j := 0) rfl dX8_order_5 ?_
    refine V.geti (v := nI nv) dX8_order_6 fX8_79 rfl rfl hn ?_
    refine V.icmp_lt (tgt := 14) dX8_order_9 (by decide) (fun c2 => ?_) (fun c2 => ?_)
    · obtain ⟨j, hj, rfl⟩ := mz_lt (nv := nv) (by omega) c1 c2
      refine V.aload_n (j := 0) rfl dX8_order_14 ?_
      refine V.cV (As := []) (st := []) dX8_order_15 sX8_147 iX8_settle lX8_settle rfl rfl (md_settle I A nv ns hW) ⟨by decide, by decide⟩ (Nat.le_of_ble_eq_true rfl) rfl (fun r I' A' hq => ?_)
      obtain ⟨rfl, rfl, hst⟩ := hq
      refine V.st (st' := []) rfl ?_
      refine V.aload_n (j := 0) rfl dX8_order_18 ?_
      refine V.getr (q := m_order) dX8_order_19 fX8_43 rfl rfl ?_
      refine V.iload_n (j := 1) rfl dX8_order_22 ?_
      refine V.lda (v := A' m_order j) dX8_order_23 rfl (by omega) (by decide) rfl ?_
      refine V.ri dX8_order_24 rfl ?_
      exact ⟨fun _ => ⟨by rw [nI_clamp (by omega)], rfl, hst⟩, fun z => absurd ⟨c1, c2⟩ z⟩
    · refine V.iconst (v := (-1)) (by decide) dX8_order_12 ?_
      refine V.ri dX8_order_13 rfl ?_
      exact ⟨fun z => by obtain ⟨z1, z2⟩ := z; contradiction, fun _ => ⟨rfl, rfl, rfl⟩⟩
end
section
/-- m places from i on get what stands in another row -/
def mz_cpf (g : Nat → Int32) : Nat → Nat → (Nat → Int32) → Nat → Int32
  | 0, _, f => f
  | m + 1, i, f => mz_cpf g m (i + 1) (upd f i (g i))
set_option maxRecDepth 100000 in
set_option maxHeartbeats 4000000 in
theorem ml_begin1 {G : am_G} {Fn : Array Value → State → List Frame → State → Prop} (I A : Nat → Nat → Int32)  : ∀ (m : Nat) (i : Nat) (f : Nat → Int32) (g : Nat → Int32), i + m = 64 → V G MX8_begin (am_R 0 0 0 0) Fn 0 0 43 [(0, .ref mM)] [] (hp I (upA (upA A m_left (mz_cpf (A m_memory) m i f)) m_slots (mz_fill m i g))) → V G MX8_begin (am_R 0 0 0 0) Fn 0 0 12 [(0, .ref mM), (1, .int (nI i))] [] (hp I (upA (upA A m_left (f)) m_slots (g))) := by
  intro m
  induction m with
  | zero =>
    intro i f g hi0 hk
    refine V.iload_n (j := 1) rfl dX8_begin_12 ?_
    refine V.bipush (v := nI 64) (by decide) dX8_begin_13 ?_
    refine V.icmp_geN (tgt := 43) dX8_begin_15 (by decide) (by omega) (by omega) (fun c1 => ?_) (fun c1 => ?_)
    · refine V.fewer [0] rfl ?_
      exact hk
    · exact absurd c1 (by omega)
  | succ m ih =>
    intro i f g hi0 hk
    refine V.iload_n (j := 1) rfl dX8_begin_12 ?_
    refine V.bipush (v := nI 64) (by decide) dX8_begin_13 ?_
    refine V.icmp_geN (tgt := 43) dX8_begin_15 (by decide) (by omega) (by omega) (fun c2 => ?_) (fun c2 => ?_)
    · exact absurd c2 (by omega)
    · refine V.aload_n (j := 0) rfl dX8_begin_18 ?_
      refine V.getr (q := m_left) dX8_begin_19 fX8_61 rfl rfl ?_
      refine V.iload_n (j := 1) rfl dX8_begin_22 ?_
      refine V.aload_n (j := 0) rfl dX8_begin_23 ?_
      refine V.getr (q := m_memory) dX8_begin_24 fX8_28 rfl rfl ?_
      refine V.iload_n (j := 1) rfl dX8_begin_27 ?_
      refine V.lda (v := A m_memory i) dX8_begin_28 rfl (by omega) (by decide) rfl ?_
      refine V.sta (g := upd f i (A m_memory i)) dX8_begin_29 rfl (by omega) (by decide) rfl ?_
      refine V.hpe (A' := (upA (upA A m_left (upd f i (A m_memory i))) m_slots (g))) rfl (upA_r2 (by decide)) ?_
      refine V.aload_n (j := 0) rfl dX8_begin_30 ?_
      refine V.getr (q := m_slots) dX8_begin_31 fX8_67 rfl rfl ?_
      refine V.iload_n (j := 1) rfl dX8_begin_34 ?_
      refine V.iconst (v := nI 0) (by decide) dX8_begin_35 ?_
      refine V.sta (g := upd g i (nI 0)) dX8_begin_36 rfl (by omega) (by decide) rfl ?_
      refine V.hpe (A' := (upA (upA A m_left (upd f i (A m_memory i))) m_slots (upd g i (nI 0)))) rfl upA_u ?_
      refine V.iincN (ls' := [(0, .ref mM), (1, .int (nI (i + 1)))]) dX8_begin_37 (j := 1) rfl (by decide) rfl ?_
      refine V.goto (tgt := 12) dX8_begin_40 (by decide) ?_
      exact ih (i + 1) _ _ (by omega) hk
set_option maxRecDepth 100000 in
set_option maxHeartbeats 4000000 in
theorem ml_begin2 {G : am_G} {Fn : Array Value → State → List Frame → State → Prop} (I A : Nat → Nat → Int32)  : ∀ (m : Nat) (i : Nat) (f : Nat → Int32), i + m = 32 → V G MX8_begin (am_R 0 0 0 0) Fn 0 0 64 [(0, .ref mM)] [] (hp I (upA A m_held (mz_fill m i f))) → V G MX8_begin (am_R 0 0 0 0) Fn 0 0 45 [(0, .ref mM), (1, .int (nI i))] [] (hp I (upA A m_held (f))) := by
  intro m
  induction m with
  | zero =>
    intro i f hi0 hk
    refine V.iload_n (j := 1) rfl dX8_begin_45 ?_
    refine V.bipush (v := nI 32) (by decide) dX8_begin_46 ?_
    refine V.icmp_geN (tgt := 64) dX8_begin_48 (by decide) (by omega) (by omega) (fun c1 => ?_) (fun c1 => ?_)
    · refine V.fewer [0] rfl ?_
      exact hk
    · exact absurd c1 (by omega)
  | succ m ih =>
    intro i f hi0 hk
    refine V.iload_n (j := 1) rfl dX8_begin_45 ?_
    refine V.bipush (v := nI 32) (by decide) dX8_begin_46 ?_
    refine V.icmp_geN (tgt := 64) dX8_begin_48 (by decide) (by omega) (by omega) (fun c2 => ?_) (fun c2 => ?_)
    · exact absurd c2 (by omega)
    · refine V.aload_n (j := 0) rfl dX8_begin_51 ?_
      refine V.getr (q := m_held) dX8_begin_52 fX8_64 rfl rfl ?_
      refine V.iload_n (j := 1) rfl dX8_begin_55 ?_
      refine V.iconst (v := nI 0) (by decide) dX8_begin_56 ?_
      refine V.sta (g := upd f i (nI 0)) dX8_begin_57 rfl (by omega) (by decide) rfl ?_
      refine V.hpe (A' := (upA A m_held (upd f i (nI 0)))) rfl upA_u ?_
      refine V.iincN (ls' := [(0, .ref mM), (1, .int (nI (i + 1)))]) dX8_begin_58 (j := 1) rfl (by decide) rfl ?_
      refine V.goto (tgt := 45) dX8_begin_61 (by decide) ?_
      exact ih (i + 1) _ (by omega) hk
set_option maxRecDepth 100000 in
set_option maxHeartbeats 4000000 in
theorem ml_begin3 {G : am_G} {Fn : Array Value → State → List Frame → State → Prop} (I A : Nat → Nat → Int32)  : ∀ (m : Nat) (i : Nat) (f : Nat → Int32), i + m = 24 → V G MX8_begin (am_R 0 0 0 0) Fn 0 0 85 [(0, .ref mM)] [] (hp I (upA A m_now (mz_fill m i f))) → V G MX8_begin (am_R 0 0 0 0) Fn 0 0 66 [(0, .ref mM), (1, .int (nI i))] [] (hp I (upA A m_now (f))) := by
  intro m
  induction m with
  | zero =>
    intro i f hi0 hk
    refine V.iload_n (j := 1) rfl dX8_begin_66 ?_
    refine V.bipush (v := nI 24) (by decide) dX8_begin_67 ?_
    refine V.icmp_geN (tgt := 85) dX8_begin_69 (by decide) (by omega) (by omega) (fun c1 => ?_) (fun c1 => ?_)
    · refine V.fewer [0] rfl ?_
      exact hk
    · exact absurd c1 (by omega)
  | succ m ih =>
    intro i f hi0 hk
    refine V.iload_n (j := 1) rfl dX8_begin_66 ?_
    refine V.bipush (v := nI 24) (by decide) dX8_begin_67 ?_
    refine V.icmp_geN (tgt := 85) dX8_begin_69 (by decide) (by omega) (by omega) (fun c2 => ?_) (fun c2 => ?_)
    · exact absurd c2 (by omega)
    · refine V.aload_n (j := 0) rfl dX8_begin_72 ?_
      refine V.getr (q := m_now) dX8_begin_73 fX8_70 rfl rfl ?_
      refine V.iload_n (j := 1) rfl dX8_begin_76 ?_
      refine V.iconst (v := nI 0) (by decide) dX8_begin_77 ?_
      refine V.sta (g := upd f i (nI 0)) dX8_begin_78 rfl (by omega) (by decide) rfl ?_
      refine V.hpe (A' := (upA A m_now (upd f i (nI 0)))) rfl upA_u ?_
      refine V.iincN (ls' := [(0, .ref mM), (1, .int (nI (i + 1)))]) dX8_begin_79 (j := 1) rfl (by decide) rfl ?_
      refine V.goto (tgt := 66) dX8_begin_82 (by decide) ?_
      exact ih (i + 1) _ (by omega) hk
set_option maxRecDepth 100000 in
set_option maxHeartbeats 4000000 in
theorem md_begin {G : am_G} (I A : Nat → Nat → Int32)  : Cm G MX8_begin 0 0 [.ref mM] I A (fun r I' A' => r = none ∧ (upI (upI I mM 18 (nI 0)) mM 19 (nI 0)) = I' ∧ upA (upA (upA (upA A m_left (mz_cpf (A m_memory) 64 0 (A m_left))) m_slots (mz_fill 64 0 (A m_slots))) m_held (mz_fill 32 0 (A m_held))) m_now (mz_fill 24 0 (A m_now)) = A') := by
  refine Cm.of (by decide) (Nat.le_of_ble_eq_true rfl) rfl ?_
  show V G MX8_begin (am_R 0 0 0 0) _ 0 0 0 [(0, .ref mM)] [] (hp I A)
  refine V.aload_n (j := 0) rfl dX8_begin_0 ?_
  refine V.iconst (v := nI 0) (by decide) dX8_begin_1 ?_
  refine V.puti dX8_begin_2 pX8_172 rfl rfl ?_
  refine V.aload_n (j := 0) rfl dX8_begin_5 ?_
  refine V.iconst (v := nI 0) (by decide) dX8_begin_6 ?_
  refine V.puti dX8_begin_7 pX8_175 rfl rfl ?_
  refine V.iconst (v := nI 0) (by decide) dX8_begin_10 ?_
  refine V.istore_n (ls' := [(0, .ref mM), (1, .int (nI 0))]) dX8_begin_11 (by decide) rfl ?_
  refine V.hpe (A' := (upA (upA A m_left (A m_left)) m_slots (A m_slots))) rfl (by rw [upA_i, upA_i]) ?_
  refine ml_begin1 (upI (upI I mM 18 (nI 0)) mM 19 (nI 0)) A 64 0 _ _ (by omega) ?_
  refine V.iconst (v := nI 0) (by decide) dX8_begin_43 ?_
  refine V.istore_n (ls' := [(0, .ref mM), (1, .int (nI 0))]) dX8_begin_44 (by decide) rfl ?_
  refine V.hpe (A' := (upA (upA (upA A m_left (mz_cpf (A m_memory) 64 0 (A m_left))) m_slots (mz_fill 64 0 (A m_slots))) m_held (A m_held))) rfl (upA_ii (A := (upA (upA A m_left (mz_cpf (A m_memory) 64 0 (A m_left))) m_slots (mz_fill 64 0 (A m_slots)))) (a := m_held) rfl).symm ?_
  refine ml_begin2 (upI (upI I mM 18 (nI 0)) mM 19 (nI 0)) (upA (upA A m_left (mz_cpf (A m_memory) 64 0 (A m_left))) m_slots (mz_fill 64 0 (A m_slots))) 32 0 _ (by omega) ?_
  refine V.iconst (v := nI 0) (by decide) dX8_begin_64 ?_
  refine V.istore_n (ls' := [(0, .ref mM), (1, .int (nI 0))]) dX8_begin_65 (by decide) rfl ?_
  refine V.hpe (A' := (upA (upA (upA (upA A m_left (mz_cpf (A m_memory) 64 0 (A m_left))) m_slots (mz_fill 64 0 (A m_slots))) m_held (mz_fill 32 0 (A m_held))) m_now (A m_now))) rfl (upA_ii (A := (upA (upA (upA A m_left (mz_cpf (A m_memory) 64 0 (A m_left))) m_slots (mz_fill 64 0 (A m_slots))) m_held (mz_fill 32 0 (A m_held)))) (a := m_now) rfl).symm ?_
  refine ml_begin3 (upI (upI I mM 18 (nI 0)) mM 19 (nI 0)) (upA (upA (upA A m_left (mz_cpf (A m_memory) 64 0 (A m_left))) m_slots (mz_fill 64 0 (A m_slots))) m_held (mz_fill 32 0 (A m_held))) 24 0 _ (by omega) ?_
  refine V.rv dX8_begin_85 rfl ?_
  exact ⟨rfl, rfl, rfl⟩
def mz_sy (t : Nat) (sd : Nat → Int32) (v : Int32) : Nat → Int32 := if t < 50 then upd sd t v else sd
def mz_cl (x : Int32) : Nat := x.toBitVec.toNat % 64
theorem mz_cl_lt (x : Int32) : mz_cl x < 64 := Nat.mod_lt _ (by decide)
theorem mz_cl_e (x : Int32) : x &&& nI 63 = nI (mz_cl x) := pk_and x 6 (by decide)
def mz_rk (o a b : Int32) : Int32 := if o = 2 then a + b else if o = 3 then a - b else a * b
def mz_DA (A : Nat → Nat → Int32) (nw l sd : Nat → Int32) : Nat → Nat → Int32 := upA (upA (upA A m_now nw) m_left l) m_said sd
theorem mz_DA_n {A : Nat → Nat → Int32} {nw : Nat → Int32} : mz_DA A nw (A m_left) (A m_said) = upA A m_now nw := by
  unfold mz_DA
  rw [upA_ii (A := upA A m_now nw) (a := m_left) (f := A m_left) rfl, upA_ii (A := upA A m_now nw) (a := m_said) (f := A m_said) rfl]
theorem mz_DA_l {A : Nat → Nat → Int32} {l : Nat → Int32} : mz_DA A (A m_now) l (A m_said) = upA A m_left l := by
  unfold mz_DA
  rw [upA_i, upA_ii (A := upA A m_left l) (a := m_said) (f := A m_said) rfl]
theorem mz_DA_s {A : Nat → Nat → Int32} {sd : Nat → Int32} : mz_DA A (A m_now) (A m_left) sd = upA A m_said sd := by
  unfold mz_DA
  rw [upA_i, upA_i]
theorem mz_DA_i {A : Nat → Nat → Int32} : mz_DA A (A m_now) (A m_left) (A m_said) = A := by
  unfold mz_DA
  rw [upA_i, upA_i, upA_i]
set_option maxRecDepth 100000 in
set_option maxHeartbeats 4000000 in
theorem md_say {G : am_G} (I A : Nat → Nat → Int32) (t : Nat) (ht : I mM 19 = nI t) (ht2 : t < 4000) (v : Int32) : Cm G MX8_say 0 0 [.ref mM, .int v] I A (fun r I' A' => r = none ∧ upI I mM 19 (nI (t + 1)) = I' ∧ upA A m_said (mz_sy t (A m_said) v) = A') := by
  refine Cm.of (by decide) (Nat.le_of_ble_eq_true rfl) rfl ?_
  show V G MX8_say (am_R 0 0 0 0) _ 0 0 0 [(0, .ref mM), (1, .int v)] [] (hp I A)
  refine V.aload_n (j := 0) rfl dX8_say_0 ?_
  refine V.geti (v := nI t) dX8_say_1 fX8_175 rfl rfl ht ?_
  refine V.bipush (v := nI 50) (by decide) dX8_say_4 ?_
  refine V.icmp_geN (tgt := 19) dX8_say_6 (by decide) (by omega) (by omega) (fun c1 => ?_) (fun c1 => ?_)
  · refine V.aload_n (j := 0) rfl dX8_say_19 ?_
    refine V.dup rfl dX8_say_20 ?_
    refine V.geti (v := nI t) dX8_say_21 fX8_175 rfl rfl ht ?_
    refine V.iconst (v := nI 1) (by decide) dX8_say_24 ?_
    refine V.iaddN dX8_say_25 ?_
    refine V.puti dX8_say_26 pX8_175 rfl rfl ?_
    refine V.rv dX8_say_29 rfl ?_
    exact ⟨rfl, rfl, by rw [show mz_sy t (A m_said) v = A m_said from if_neg (by omega), upA_i]⟩
  · refine V.aload_n (j := 0) rfl dX8_say_9 ?_
    refine V.getr (q := m_said) dX8_say_10 fX8_58 rfl rfl ?_
    refine V.aload_n (j := 0) rfl dX8_say_13 ?_
    refine V.geti (v := nI t) dX8_say_14 fX8_175 rfl rfl ht ?_
    refine V.iload_n (j := 1) rfl dX8_say_17 ?_
    refine V.sta (g := upd (A m_said) t (v)) dX8_say_18 rfl (by omega) (by decide) rfl ?_
    refine V.aload_n (j := 0) rfl dX8_say_19 ?_
    refine V.dup rfl dX8_say_20 ?_
    refine V.geti (v := nI t) dX8_say_21 fX8_175 rfl rfl ht ?_
    refine V.iconst (v := nI 1) (by decide) dX8_say_24 ?_
    refine V.iaddN dX8_say_25 ?_
    refine V.puti dX8_say_26 pX8_175 rfl rfl ?_
    refine V.rv dX8_say_29 rfl ?_
    exact ⟨rfl, rfl, by rw [show mz_sy t (A m_said) v = upd (A m_said) t v from if_pos (by omega)]⟩
set_option maxRecDepth 100000 in
set_option maxHeartbeats 4000000 in
theorem md_doStep0 {G : am_G} (I A : Nat → Nat → Int32) (s : Nat) (hs : s < 60) (t : Nat) (ht : I mM 19 = nI t) (ht2 : t < 4000) (ek : A m_ops s = nI 0) (a : Nat) (ha : a < 24) (ea : A m_first s = nI a) : Cm G MX8_doStep 1 22 [.ref mM, .int (nI s)] I A (fun r I' A' => r = some (.int (nI (s + 1))) ∧ upI I mM 19 (nI (t)) = I' ∧ mz_DA A (upd (A m_now) a (A m_second s)) ((A m_left)) ((A m_said)) = A') := by
  refine Cm.of (by decide) (Nat.le_of_ble_eq_true rfl) rfl ?_
  show V G MX8_doStep (am_R 1 22 0 0) _ 0 0 0 [(0, .ref mM), (1, .int (nI s))] [] (hp I A)
  refine V.aload_n (j := 0) rfl dX8_doStep_0 ?_
  refine V.getr (q := m_first) dX8_doStep_1 fX8_16 rfl rfl ?_
  refine V.iload_n (j := 1) rfl dX8_doStep_4 ?_
  refine V.lda (v := nI a) dX8_doStep_5 rfl (by omega) (by decide) ea ?_
  refine V.istore_n (ls' := [(0, .ref mM), (1, .int (nI s)), (2, .int (nI a))]) dX8_doStep_6 (by decide) rfl ?_
  refine V.aload_n (j := 0) rfl dX8_doStep_7 ?_
  refine V.getr (q := m_second) dX8_doStep_8 fX8_19 rfl rfl ?_
  refine V.iload_n (j := 1) rfl dX8_doStep_11 ?_
  refine V.lda (v := A m_second s) dX8_doStep_12 rfl (by omega) (by decide) rfl ?_
  refine V.istore_n (ls' := [(0, .ref mM), (1, .int (nI s)), (2, .int (nI a)), (3, .int (A m_second s))]) dX8_doStep_13 (by decide) rfl ?_
  refine V.aload_n (j := 0) rfl dX8_doStep_14 ?_
  refine V.getr (q := m_third) dX8_doStep_15 fX8_22 rfl rfl ?_
  refine V.iload_n (j := 1) rfl dX8_doStep_18 ?_
  refine V.lda (v := A m_third s) dX8_doStep_19 rfl (by omega) (by decide) rfl ?_
  refine V.istore (ls' := [(0, .ref mM), (1, .int (nI s)), (2, .int (nI a)), (3, .int (A m_second s)), (4, .int (A m_third s))]) dX8_doStep_20 (by decide) rfl ?_
  refine V.aload_n (j := 0) rfl dX8_doStep_22 ?_
  refine V.getr (q := m_ops) dX8_doStep_23 fX8_13 rfl rfl ?_
  refine V.iload_n (j := 1) rfl dX8_doStep_26 ?_
  refine V.lda (v := nI 0) dX8_doStep_27 rfl (by omega) (by decide) ek ?_
  refine V.tableIn (tgt := 84) dX8_doStep_28 (by decide) (by decide) rfl (by decide) ?_
  refine V.aload_n (j := 0) rfl dX8_doStep_84 ?_
  refine V.getr (q := m_now) dX8_doStep_85 fX8_70 rfl rfl ?_
  refine V.iload_n (j := 2) rfl dX8_doStep_88 ?_
  refine V.iload_n (j := 3) rfl dX8_doStep_89 ?_
  refine V.sta (g := upd (A m_now) a (A m_second s)) dX8_doStep_90 rfl (by omega) (by decide) rfl ?_
  refine V.goto (tgt := 234) dX8_doStep_91 (by decide) ?_
  refine V.iload_n (j := 1) rfl dX8_doStep_234 ?_
  refine V.iconst (v := nI 1) (by decide) dX8_doStep_235 ?_
  refine V.iaddN dX8_doStep_236 ?_
  refine V.ri dX8_doStep_237 rfl ?_
  exact ⟨rfl, by rw [← ht, upI_i], mz_DA_n⟩
set_option maxRecDepth 100000 in
set_option maxHeartbeats 4000000 in
theorem md_doStep1 {G : am_G} (I A : Nat → Nat → Int32) (s : Nat) (hs : s < 60) (t : Nat) (ht : I mM 19 = nI t) (ht2 : t < 4000) (ek : A m_ops s = nI 1) (a : Nat) (ha : a < 24) (ea : A m_first s = nI a) (b : Nat) (hb : b < 24) (eb : A m_second s = nI b) : Cm G MX8_doStep 1 22 [.ref mM, .int (nI s)] I A (fun r I' A' => r = some (.int (nI (s + 1))) ∧ upI I mM 19 (nI (t)) = I' ∧ mz_DA A (upd (A m_now) a ((A m_now) b)) ((A m_left)) ((A m_said)) = A') := by
  refine Cm.of (by decide) (Nat.le_of_ble_eq_true rfl) rfl ?_
  show V G MX8_doStep (am_R 1 22 0 0) _ 0 0 0 [(0, .ref mM), (1, .int (nI s))] [] (hp I A)
  refine V.aload_n (j := 0) rfl dX8_doStep_0 ?_
  refine V.getr (q := m_first) dX8_doStep_1 fX8_16 rfl rfl ?_
  refine V.iload_n (j := 1) rfl dX8_doStep_4 ?_
  refine V.lda (v := nI a) dX8_doStep_5 rfl (by omega) (by decide) ea ?_
  refine V.istore_n (ls' := [(0, .ref mM), (1, .int (nI s)), (2, .int (nI a))]) dX8_doStep_6 (by decide) rfl ?_
  refine V.aload_n (j := 0) rfl dX8_doStep_7 ?_
  refine V.getr (q := m_second) dX8_doStep_8 fX8_19 rfl rfl ?_
  refine V.iload_n (j := 1) rfl dX8_doStep_11 ?_
  refine V.lda (v := nI b) dX8_doStep_12 rfl (by omega) (by decide) eb ?_
  refine V.istore_n (ls' := [(0, .ref mM), (1, .int (nI s)), (2, .int (nI a)), (3, .int (nI b))]) dX8_doStep_13 (by decide) rfl ?_
  refine V.aload_n (j := 0) rfl dX8_doStep_14 ?_
  refine V.getr (q := m_third) dX8_doStep_15 fX8_22 rfl rfl ?_
  refine V.iload_n (j := 1) rfl dX8_doStep_18 ?_
  refine V.lda (v := A m_third s) dX8_doStep_19 rfl (by omega) (by decide) rfl ?_
  refine V.istore (ls' := [(0, .ref mM), (1, .int (nI s)), (2, .int (nI a)), (3, .int (nI b)), (4, .int (A m_third s))]) dX8_doStep_20 (by decide) rfl ?_
  refine V.aload_n (j := 0) rfl dX8_doStep_22 ?_
  refine V.getr (q := m_ops) dX8_doStep_23 fX8_13 rfl rfl ?_
  refine V.iload_n (j := 1) rfl dX8_doStep_26 ?_
  refine V.lda (v := nI 1) dX8_doStep_27 rfl (by omega) (by decide) ek ?_
  refine V.tableIn (tgt := 94) dX8_doStep_28 (by decide) (by decide) rfl (by decide) ?_
  refine V.aload_n (j := 0) rfl dX8_doStep_94 ?_
  refine V.getr (q := m_now) dX8_doStep_95 fX8_70 rfl rfl ?_
  refine V.iload_n (j := 2) rfl dX8_doStep_98 ?_
  refine V.aload_n (j := 0) rfl dX8_doStep_99 ?_
  refine V.getr (q := m_now) dX8_doStep_100 fX8_70 rfl rfl ?_
  refine V.iload_n (j := 3) rfl dX8_doStep_103 ?_
  refine V.lda (v := A m_now b) dX8_doStep_104 rfl (by omega) (by decide) rfl ?_
  refine V.sta (g := upd (A m_now) a (A m_now b)) dX8_doStep_105 rfl (by omega) (by decide) rfl ?_
  refine V.goto (tgt := 234) dX8_doStep_106 (by decide) ?_
  refine V.iload_n (j := 1) rfl dX8_doStep_234 ?_
  refine V.iconst (v := nI 1) (by decide) dX8_doStep_235 ?_
  refine V.iaddN dX8_doStep_236 ?_
  refine V.ri dX8_doStep_237 rfl ?_
  exact ⟨rfl, by rw [← ht, upI_i], mz_DA_n⟩
set_option maxRecDepth 100000 in
set_option maxHeartbeats 4000000 in
theorem md_doStep2 {G : am_G} (I A : Nat → Nat → Int32) (s : Nat) (hs : s < 60) (t : Nat) (ht : I mM 19 = nI t) (ht2 : t < 4000) (ek : A m_ops s = nI 2) (a : Nat) (ha : a < 24) (ea : A m_first s = nI a) (b : Nat) (hb : b < 24) (eb : A m_second s = nI b) (c : Nat) (hc : c < 24) (ec : A m_third s = nI c) : Cm G MX8_doStep 1 22 [.ref mM, .int (nI s)] I A (fun r I' A' => r = some (.int (nI (s + 1))) ∧ upI I mM 19 (nI (t)) = I' ∧ mz_DA A (upd (A m_now) a (mz_rk (nI 2) ((A m_now) b) ((A m_now) c))) ((A m_left)) ((A m_said)) = A') := by
  refine Cm.of (by decide) (Nat.le_of_ble_eq_true rfl) rfl ?_
  show V G MX8_doStep (am_R 1 22 0 0) _ 0 0 0 [(0, .ref mM), (1, .int (nI s))] [] (hp I A)
  refine V.aload_n (j := 0) rfl dX8_doStep_0 ?_
  refine V.getr (q := m_first) dX8_doStep_1 fX8_16 rfl rfl ?_
  refine V.iload_n (j := 1) rfl dX8_doStep_4 ?_
  refine V.lda (v := nI a) dX8_doStep_5 rfl (by omega) (by decide) ea ?_
  refine V.istore_n (ls' := [(0, .ref mM), (1, .int (nI s)), (2, .int (nI a))]) dX8_doStep_6 (by decide) rfl ?_
  refine V.aload_n (j := 0) rfl dX8_doStep_7 ?_
  refine V.getr (q := m_second) dX8_doStep_8 fX8_19 rfl rfl ?_
  refine V.iload_n (j := 1) rfl dX8_doStep_11 ?_
  refine V.lda (v := nI b) dX8_doStep_12 rfl (by omega) (by decide) eb ?_
  refine V.istore_n (ls' := [(0, .ref mM), (1, .int (nI s)), (2, .int (nI a)), (3, .int (nI b))]) dX8_doStep_13 (by decide) rfl ?_
  refine V.aload_n (j := 0) rfl dX8_doStep_14 ?_
  refine V.getr (q := m_third) dX8_doStep_15 fX8_22 rfl rfl ?_
  refine V.iload_n (j := 1) rfl dX8_doStep_18 ?_
  refine V.lda (v := nI c) dX8_doStep_19 rfl (by omega) (by decide) ec ?_
  refine V.istore (ls' := [(0, .ref mM), (1, .int (nI s)), (2, .int (nI a)), (3, .int (nI b)), (4, .int (nI c))]) dX8_doStep_20 (by decide) rfl ?_
  refine V.aload_n (j := 0) rfl dX8_doStep_22 ?_
  refine V.getr (q := m_ops) dX8_doStep_23 fX8_13 rfl rfl ?_
  refine V.iload_n (j := 1) rfl dX8_doStep_26 ?_
  refine V.lda (v := nI 2) dX8_doStep_27 rfl (by omega) (by decide) ek ?_
  refine V.tableIn (tgt := 109) dX8_doStep_28 (by decide) (by decide) rfl (by decide) ?_
  refine V.aload_n (j := 0) rfl dX8_doStep_109 ?_
  refine V.getr (q := m_now) dX8_doStep_110 fX8_70 rfl rfl ?_
  refine V.iload_n (j := 2) rfl dX8_doStep_113 ?_
  refine V.aload_n (j := 0) rfl dX8_doStep_114 ?_
  refine V.getr (q := m_ops) dX8_doStep_115 fX8_13 rfl rfl ?_
  refine V.iload_n (j := 1) rfl dX8_doStep_118 ?_
  refine V.lda (v := nI 2) dX8_doStep_119 rfl (by omega) (by decide) ek ?_
  refine V.aload_n (j := 0) rfl dX8_doStep_120 ?_
  refine V.getr (q := m_now) dX8_doStep_121 fX8_70 rfl rfl ?_
  refine V.iload_n (j := 3) rfl dX8_doStep_124 ?_
  refine V.lda (v := A m_now b) dX8_doStep_125 rfl (by omega) (by decide) rfl ?_
  refine V.aload_n (j := 0) rfl dX8_doStep_126 ?_
  refine V.getr (q := m_now) dX8_doStep_127 fX8_70 rfl rfl ?_
  refine V.iload (j := 4) rfl dX8_doStep_130 ?_
  refine V.lda (v := A m_now c) dX8_doStep_132 rfl (by omega) (by decide) rfl ?_
  refine V.cS (As := [.int (nI 2), .int (A m_now b), .int (A m_now c)]) (st := [.int (nI a), .ref m_now]) dX8_doStep_133 sX8_178 zX8_reckoned (md_reckoned I A _ _ _) ⟨by decide, by decide⟩ (Nat.le_of_ble_eq_true rfl) rfl (fun r I' A' hq => ?_)
  obtain ⟨rfl, rfl, rfl⟩ := hq
  refine V.st (st' := [.int (mz_rk (nI 2) (A m_now b) (A m_now c)), .int (nI a), .ref m_now]) rfl ?_
  refine V.sta (g := upd (A m_now) a (mz_rk (nI 2) (A m_now b) (A m_now c))) dX8_doStep_136 rfl (by omega) (by decide) rfl ?_
  refine V.goto (tgt := 234) dX8_doStep_137 (by decide) ?_
  refine V.iload_n (j := 1) rfl dX8_doStep_234 ?_
  refine V.iconst (v := nI 1) (by decide) dX8_doStep_235 ?_
  refine V.iaddN dX8_doStep_236 ?_
  refine V.ri dX8_doStep_237 rfl ?_
  exact ⟨rfl, by rw [← ht, upI_i], mz_DA_n⟩
set_option maxRecDepth 100000 in
set_option maxHeartbeats 4000000 in
theorem md_doStep3 {G : am_G} (I A : Nat → Nat → Int32) (s : Nat) (hs : s < 60) (t : Nat) (ht : I mM 19 = nI t) (ht2 : t < 4000) (ek : A m_ops s = nI 3) (a : Nat) (ha : a < 24) (ea : A m_first s = nI a) (b : Nat) (hb : b < 24) (eb : A m_second s = nI b) (c : Nat) (hc : c < 24) (ec : A m_third s = nI c) : Cm G MX8_doStep 1 22 [.ref mM, .int (nI s)] I A (fun r I' A' => r = some (.int (nI (s + 1))) ∧ upI I mM 19 (nI (t)) = I' ∧ mz_DA A (upd (A m_now) a (mz_rk (nI 3) ((A m_now) b) ((A m_now) c))) ((A m_left)) ((A m_said)) = A') := by
  refine Cm.of (by decide) (Nat.le_of_ble_eq_true rfl) rfl ?_
  show V G MX8_doStep (am_R 1 22 0 0) _ 0 0 0 [(0, .ref mM), (1, .int (nI s))] [] (hp I A)
  refine V.aload_n (j := 0) rfl dX8_doStep_0 ?_
  refine V.getr (q := m_first) dX8_doStep_1 fX8_16 rfl rfl ?_
  refine V.iload_n (j := 1) rfl dX8_doStep_4 ?_
  refine V.lda (v := nI a) dX8_doStep_5 rfl (by omega) (by decide) ea ?_
  refine V.istore_n (ls' := [(0, .ref mM), (1, .int (nI s)), (2, .int (nI a))]) dX8_doStep_6 (by decide) rfl ?_
  refine V.aload_n (j := 0) rfl dX8_doStep_7 ?_
  refine V.getr (q := m_second) dX8_doStep_8 fX8_19 rfl rfl ?_
  refine V.iload_n (j := 1) rfl dX8_doStep_11 ?_
  refine V.lda (v := nI b) dX8_doStep_12 rfl (by omega) (by decide) eb ?_
  refine V.istore_n (ls' := [(0, .ref mM), (1, .int (nI s)), (2, .int (nI a)), (3, .int (nI b))]) dX8_doStep_13 (by decide) rfl ?_
  refine V.aload_n (j := 0) rfl dX8_doStep_14 ?_
  refine V.getr (q := m_third) dX8_doStep_15 fX8_22 rfl rfl ?_
  refine V.iload_n (j := 1) rfl dX8_doStep_18 ?_
  refine V.lda (v := nI c) dX8_doStep_19 rfl (by omega) (by decide) ec ?_
  refine V.istore (ls' := [(0, .ref mM), (1, .int (nI s)), (2, .int (nI a)), (3, .int (nI b)), (4, .int (nI c))]) dX8_doStep_20 (by decide) rfl ?_
  refine V.aload_n (j := 0) rfl dX8_doStep_22 ?_
  refine V.getr (q := m_ops) dX8_doStep_23 fX8_13 rfl rfl ?_
  refine V.iload_n (j := 1) rfl dX8_doStep_26 ?_
  refine V.lda (v := nI 3) dX8_doStep_27 rfl (by omega) (by decide) ek ?_
  refine V.tableIn (tgt := 109) dX8_doStep_28 (by decide) (by decide) rfl (by decide) ?_
  refine V.aload_n (j := 0) rfl dX8_doStep_109 ?_
  refine V.getr (q := m_now) dX8_doStep_110 fX8_70 rfl rfl ?_
  refine V.iload_n (j := 2) rfl dX8_doStep_113 ?_
  refine V.aload_n (j := 0) rfl dX8_doStep_114 ?_
  refine V.getr (q := m_ops) dX8_doStep_115 fX8_13 rfl rfl ?_
  refine V.iload_n (j := 1) rfl dX8_doStep_118 ?_
  refine V.lda (v := nI 3) dX8_doStep_119 rfl (by omega) (by decide) ek ?_
  refine V.aload_n (j := 0) rfl dX8_doStep_120 ?_
  refine V.getr (q := m_now) dX8_doStep_121 fX8_70 rfl rfl ?_
  refine V.iload_n (j := 3) rfl dX8_doStep_124 ?_
  refine V.lda (v := A m_now b) dX8_doStep_125 rfl (by omega) (by decide) rfl ?_
  refine V.aload_n (j := 0) rfl dX8_doStep_126 ?_
  refine V.getr (q := m_now) dX8_doStep_127 fX8_70 rfl rfl ?_
  refine V.iload (j := 4) rfl dX8_doStep_130 ?_
  refine V.lda (v := A m_now c) dX8_doStep_132 rfl (by omega) (by decide) rfl ?_
  refine V.cS (As := [.int (nI 3), .int (A m_now b), .int (A m_now c)]) (st := [.int (nI a), .ref m_now]) dX8_doStep_133 sX8_178 zX8_reckoned (md_reckoned I A _ _ _) ⟨by decide, by decide⟩ (Nat.le_of_ble_eq_true rfl) rfl (fun r I' A' hq => ?_)
  obtain ⟨rfl, rfl, rfl⟩ := hq
  refine V.st (st' := [.int (mz_rk (nI 3) (A m_now b) (A m_now c)), .int (nI a), .ref m_now]) rfl ?_
  refine V.sta (g := upd (A m_now) a (mz_rk (nI 3) (A m_now b) (A m_now c))) dX8_doStep_136 rfl (by omega) (by decide) rfl ?_
  refine V.goto (tgt := 234) dX8_doStep_137 (by decide) ?_
  refine V.iload_n (j := 1) rfl dX8_doStep_234 ?_
  refine V.iconst (v := nI 1) (by decide) dX8_doStep_235 ?_
  refine V.iaddN dX8_doStep_236 ?_
  refine V.ri dX8_doStep_237 rfl ?_
  exact ⟨rfl, by rw [← ht, upI_i], mz_DA_n⟩
set_option maxRecDepth 100000 in
set_option maxHeartbeats 4000000 in
theorem md_doStep4 {G : am_G} (I A : Nat → Nat → Int32) (s : Nat) (hs : s < 60) (t : Nat) (ht : I mM 19 = nI t) (ht2 : t < 4000) (ek : A m_ops s = nI 4) (a : Nat) (ha : a < 24) (ea : A m_first s = nI a) (b : Nat) (hb : b < 24) (eb : A m_second s = nI b) (c : Nat) (hc : c < 24) (ec : A m_third s = nI c) : Cm G MX8_doStep 1 22 [.ref mM, .int (nI s)] I A (fun r I' A' => r = some (.int (nI (s + 1))) ∧ upI I mM 19 (nI (t)) = I' ∧ mz_DA A (upd (A m_now) a (mz_rk (nI 4) ((A m_now) b) ((A m_now) c))) ((A m_left)) ((A m_said)) = A') := by
  refine Cm.of (by decide) (Nat.le_of_ble_eq_true rfl) rfl ?_
  show V G MX8_doStep (am_R 1 22 0 0) _ 0 0 0 [(0, .ref mM), (1, .int (nI s))] [] (hp I A)
  refine V.aload_n (j := 0) rfl dX8_doStep_0 ?_
  refine V.getr (q := m_first) dX8_doStep_1 fX8_16 rfl rfl ?_
  refine V.iload_n (j := 1) rfl dX8_doStep_4 ?_
  refine V.lda (v := nI a) dX8_doStep_5 rfl (by omega) (by decide) ea ?_
  refine V.istore_n (ls' := [(0, .ref mM), (1, .int (nI s)), (2, .int (nI a))]) dX8_doStep_6 (by decide) rfl ?_
  refine V.aload_n (j := 0) rfl dX8_doStep_7 ?_
  refine V.getr (q := m_second) dX8_doStep_8 fX8_19 rfl rfl ?_
  refine V.iload_n (j := 1) rfl dX8_doStep_11 ?_
  refine V.lda (v := nI b) dX8_doStep_12 rfl (by omega) (by decide) eb ?_
  refine V.istore_n (ls' := [(0, .ref mM), (1, .int (nI s)), (2, .int (nI a)), (3, .int (nI b))]) dX8_doStep_13 (by decide) rfl ?_
  refine V.aload_n (j := 0) rfl dX8_doStep_14 ?_
  refine V.getr (q := m_third) dX8_doStep_15 fX8_22 rfl rfl ?_
  refine V.iload_n (j := 1) rfl dX8_doStep_18 ?_
  refine V.lda (v := nI c) dX8_doStep_19 rfl (by omega) (by decide) ec ?_
  refine V.istore (ls' := [(0, .ref mM), (1, .int (nI s)), (2, .int (nI a)), (3, .int (nI b)), (4, .int (nI c))]) dX8_doStep_20 (by decide) rfl ?_
  refine V.aload_n (j := 0) rfl dX8_doStep_22 ?_
  refine V.getr (q := m_ops) dX8_doStep_23 fX8_13 rfl rfl ?_
  refine V.iload_n (j := 1) rfl dX8_doStep_26 ?_
  refine V.lda (v := nI 4) dX8_doStep_27 rfl (by omega) (by decide) ek ?_
  refine V.tableIn (tgt := 109) dX8_doStep_28 (by decide) (by decide) rfl (by decide) ?_
  refine V.aload_n (j := 0) rfl dX8_doStep_109 ?_
  refine V.getr (q := m_now) dX8_doStep_110 fX8_70 rfl rfl ?_
  refine V.iload_n (j := 2) rfl dX8_doStep_113 ?_
  refine V.aload_n (j := 0) rfl dX8_doStep_114 ?_
  refine V.getr (q := m_ops) dX8_doStep_115 fX8_13 rfl rfl ?_
  refine V.iload_n (j := 1) rfl dX8_doStep_118 ?_
  refine V.lda (v := nI 4) dX8_doStep_119 rfl (by omega) (by decide) ek ?_
  refine V.aload_n (j := 0) rfl dX8_doStep_120 ?_
  refine V.getr (q := m_now) dX8_doStep_121 fX8_70 rfl rfl ?_
  refine V.iload_n (j := 3) rfl dX8_doStep_124 ?_
  refine V.lda (v := A m_now b) dX8_doStep_125 rfl (by omega) (by decide) rfl ?_
  refine V.aload_n (j := 0) rfl dX8_doStep_126 ?_
  refine V.getr (q := m_now) dX8_doStep_127 fX8_70 rfl rfl ?_
  refine V.iload (j := 4) rfl dX8_doStep_130 ?_
  refine V.lda (v := A m_now c) dX8_doStep_132 rfl (by omega) (by decide) rfl ?_
  refine V.cS (As := [.int (nI 4), .int (A m_now b), .int (A m_now c)]) (st := [.int (nI a), .ref m_now]) dX8_doStep_133 sX8_178 zX8_reckoned (md_reckoned I A _ _ _) ⟨by decide, by decide⟩ (Nat.le_of_ble_eq_true rfl) rfl (fun r I' A' hq => ?_)
  obtain ⟨rfl, rfl, rfl⟩ := hq
  refine V.st (st' := [.int (mz_rk (nI 4) (A m_now b) (A m_now c)), .int (nI a), .ref m_now]) rfl ?_
  refine V.sta (g := upd (A m_now) a (mz_rk (nI 4) (A m_now b) (A m_now c))) dX8_doStep_136 rfl (by omega) (by decide) rfl ?_
  refine V.goto (tgt := 234) dX8_doStep_137 (by decide) ?_
  refine V.iload_n (j := 1) rfl dX8_doStep_234 ?_
  refine V.iconst (v := nI 1) (by decide) dX8_doStep_235 ?_
  refine V.iaddN dX8_doStep_236 ?_
  refine V.ri dX8_doStep_237 rfl ?_
  exact ⟨rfl, by rw [← ht, upI_i], mz_DA_n⟩
set_option maxRecDepth 100000 in
set_option maxHeartbeats 4000000 in
theorem md_doStep5 {G : am_G} (I A : Nat → Nat → Int32) (s : Nat) (hs : s < 60) (t : Nat) (ht : I mM 19 = nI t) (ht2 : t < 4000) (ek : A m_ops s = nI 5) (a : Nat) (ha : a < 24) (ea : A m_first s = nI a) (b : Nat) (hb : b < 24) (eb : A m_second s = nI b) (c : Nat) (hc : c < 64) (ec : A m_third s = nI c) : Cm G MX8_doStep 1 22 [.ref mM, .int (nI s)] I A (fun r I' A' => r = some (.int (nI (s + 1))) ∧ upI I mM 19 (nI (t)) = I' ∧ mz_DA A (upd (A m_now) a ((A m_left) (mz_cl ((A m_now) b + nI c)))) ((A m_left)) ((A m_said)) = A') := by
  refine Cm.of (by decide) (Nat.le_of_ble_eq_true rfl) rfl ?_
  show V G MX8_doStep (am_R 1 22 0 0) _ 0 0 0 [(0, .ref mM), (1, .int (nI s))] [] (hp I A)
  refine V.aload_n (j := 0) rfl dX8_doStep_0 ?_
  refine V.getr (q := m_first) dX8_doStep_1 fX8_16 rfl rfl ?_
  refine V.iload_n (j := 1) rfl dX8_doStep_4 ?_
  refine V.lda (v := nI a) dX8_doStep_5 rfl (by omega) (by decide) ea ?_
  refine V.istore_n (ls' := [(0, .ref mM), (1, .int (nI s)), (2, .int (nI a))]) dX8_doStep_6 (by decide) rfl ?_
  refine V.aload_n (j := 0) rfl dX8_doStep_7 ?_
  refine V.getr (q := m_second) dX8_doStep_8 fX8_19 rfl rfl ?_
  refine V.iload_n (j := 1) rfl dX8_doStep_11 ?_
  refine V.lda (v := nI b) dX8_doStep_12 rfl (by omega) (by decide) eb ?_
  refine V.istore_n (ls' := [(0, .ref mM), (1, .int (nI s)), (2, .int (nI a)), (3, .int (nI b))]) dX8_doStep_13 (by decide) rfl ?_
  refine V.aload_n (j := 0) rfl dX8_doStep_14 ?_
  refine V.getr (q := m_third) dX8_doStep_15 fX8_22 rfl rfl ?_
  refine V.iload_n (j := 1) rfl dX8_doStep_18 ?_
  refine V.lda (v := nI c) dX8_doStep_19 rfl (by omega) (by decide) ec ?_
  refine V.istore (ls' := [(0, .ref mM), (1, .int (nI s)), (2, .int (nI a)), (3, .int (nI b)), (4, .int (nI c))]) dX8_doStep_20 (by decide) rfl ?_
  refine V.aload_n (j := 0) rfl dX8_doStep_22 ?_
  refine V.getr (q := m_ops) dX8_doStep_23 fX8_13 rfl rfl ?_
  refine V.iload_n (j := 1) rfl dX8_doStep_26 ?_
  refine V.lda (v := nI 5) dX8_doStep_27 rfl (by omega) (by decide) ek ?_
  refine V.tableIn (tgt := 140) dX8_doStep_28 (by decide) (by decide) rfl (by decide) ?_
  refine V.aload_n (j := 0) rfl dX8_doStep_140 ?_
  refine V.getr (q := m_now) dX8_doStep_141 fX8_70 rfl rfl ?_
  refine V.iload_n (j := 2) rfl dX8_doStep_144 ?_
  refine V.aload_n (j := 0) rfl dX8_doStep_145 ?_
  refine V.getr (q := m_left) dX8_doStep_146 fX8_61 rfl rfl ?_
  refine V.aload_n (j := 0) rfl dX8_doStep_149 ?_
  refine V.getr (q := m_now) dX8_doStep_150 fX8_70 rfl rfl ?_
  refine V.iload_n (j := 3) rfl dX8_doStep_153 ?_
  refine V.lda (v := A m_now b) dX8_doStep_154 rfl (by omega) (by decide) rfl ?_
  refine V.iload (j := 4) rfl dX8_doStep_155 ?_
  refine V.iadd dX8_doStep_157 ?_
  refine V.bipush (v := nI 63) (by decide) dX8_doStep_158 ?_
  refine V.iand dX8_doStep_160 ?_
  have hcl := mz_cl_lt (((A m_now b) + (nI c)))
  refine V.st (st' := [.int (nI (mz_cl (((A m_now b) + (nI c))))), .ref m_left, .int (nI a), .ref m_now]) (by rw [mz_cl_e]) ?_
  refine V.lda (v := A m_left (mz_cl (((A m_now b) + (nI c))))) dX8_doStep_161 rfl (by omega) (by decide) rfl ?_
  refine V.sta (g := upd (A m_now) a (A m_left (mz_cl (((A m_now b) + (nI c)))))) dX8_doStep_162 rfl (by omega) (by decide) rfl ?_
  refine V.goto (tgt := 234) dX8_doStep_163 (by decide) ?_
  refine V.iload_n (j := 1) rfl dX8_doStep_234 ?_
  refine V.iconst (v := nI 1) (by decide) dX8_doStep_235 ?_
  refine V.iaddN dX8_doStep_236 ?_
  refine V.ri dX8_doStep_237 rfl ?_
  exact ⟨rfl, by rw [← ht, upI_i], mz_DA_n⟩
set_option maxRecDepth 100000 in
set_option maxHeartbeats 4000000 in
theorem md_doStep6 {G : am_G} (I A : Nat → Nat → Int32) (s : Nat) (hs : s < 60) (t : Nat) (ht : I mM 19 = nI t) (ht2 : t < 4000) (ek : A m_ops s = nI 6) (a : Nat) (ha : a < 24) (ea : A m_first s = nI a) (b : Nat) (hb : b < 24) (eb : A m_second s = nI b) (c : Nat) (hc : c < 64) (ec : A m_third s = nI c) : Cm G MX8_doStep 1 22 [.ref mM, .int (nI s)] I A (fun r I' A' => r = some (.int (nI (s + 1))) ∧ upI I mM 19 (nI (t)) = I' ∧ mz_DA A ((A m_now)) (upd (A m_left) (mz_cl ((A m_now) b + nI c)) ((A m_now) a)) ((A m_said)) = A') := by
  refine Cm.of (by decide) (Nat.le_of_ble_eq_true rfl) rfl ?_
  show V G MX8_doStep (am_R 1 22 0 0) _ 0 0 0 [(0, .ref mM), (1, .int (nI s))] [] (hp I A)
  refine V.aload_n (j := 0) rfl dX8_doStep_0 ?_
  refine V.getr (q := m_first) dX8_doStep_1 fX8_16 rfl rfl ?_
  refine V.iload_n (j := 1) rfl dX8_doStep_4 ?_
  refine V.lda (v := nI a) dX8_doStep_5 rfl (by omega) (by decide) ea ?_
  refine V.istore_n (ls' := [(0, .ref mM), (1, .int (nI s)), (2, .int (nI a))]) dX8_doStep_6 (by decide) rfl ?_
  refine V.aload_n (j := 0) rfl dX8_doStep_7 ?_
  refine V.getr (q := m_second) dX8_doStep_8 fX8_19 rfl rfl ?_
  refine V.iload_n (j := 1) rfl dX8_doStep_11 ?_
  refine V.lda (v := nI b) dX8_doStep_12 rfl (by omega) (by decide) eb ?_
  refine V.istore_n (ls' := [(0, .ref mM), (1, .int (nI s)), (2, .int (nI a)), (3, .int (nI b))]) dX8_doStep_13 (by decide) rfl ?_
  refine V.aload_n (j := 0) rfl dX8_doStep_14 ?_
  refine V.getr (q := m_third) dX8_doStep_15 fX8_22 rfl rfl ?_
  refine V.iload_n (j := 1) rfl dX8_doStep_18 ?_
  refine V.lda (v := nI c) dX8_doStep_19 rfl (by omega) (by decide) ec ?_
  refine V.istore (ls' := [(0, .ref mM), (1, .int (nI s)), (2, .int (nI a)), (3, .int (nI b)), (4, .int (nI c))]) dX8_doStep_20 (by decide) rfl ?_
  refine V.aload_n (j := 0) rfl dX8_doStep_22 ?_
  refine V.getr (q := m_ops) dX8_doStep_23 fX8_13 rfl rfl ?_
  refine V.iload_n (j := 1) rfl dX8_doStep_26 ?_
  refine V.lda (v := nI 6) dX8_doStep_27 rfl (by omega) (by decide) ek ?_
  refine V.tableIn (tgt := 166) dX8_doStep_28 (by decide) (by decide) rfl (by decide) ?_
  refine V.aload_n (j := 0) rfl dX8_doStep_166 ?_
  refine V.getr (q := m_left) dX8_doStep_167 fX8_61 rfl rfl ?_
  refine V.aload_n (j := 0) rfl dX8_doStep_170 ?_
  refine V.getr (q := m_now) dX8_doStep_171 fX8_70 rfl rfl ?_
  refine V.iload_n (j := 3) rfl dX8_doStep_174 ?_
  refine V.lda (v := A m_now b) dX8_doStep_175 rfl (by omega) (by decide) rfl ?_
  refine V.iload (j := 4) rfl dX8_doStep_176 ?_
  refine V.iadd dX8_doStep_178 ?_
  refine V.bipush (v := nI 63) (by decide) dX8_doStep_179 ?_
  refine V.iand dX8_doStep_181 ?_
  have hcl := mz_cl_lt (((A m_now b) + (nI c)))
  refine V.st (st' := [.int (nI (mz_cl (((A m_now b) + (nI c))))), .ref m_left]) (by rw [mz_cl_e]) ?_
  refine V.aload_n (j := 0) rfl dX8_doStep_182 ?_
  refine V.getr (q := m_now) dX8_doStep_183 fX8_70 rfl rfl ?_
  refine V.iload_n (j := 2) rfl dX8_doStep_186 ?_
  refine V.lda (v := A m_now a) dX8_doStep_187 rfl (by omega) (by decide) rfl ?_
  refine V.sta (g := upd (A m_left) (mz_cl (((A m_now b) + (nI c)))) (A m_now a)) dX8_doStep_188 rfl (by omega) (by decide) rfl ?_
  refine V.goto (tgt := 234) dX8_doStep_189 (by decide) ?_
  refine V.iload_n (j := 1) rfl dX8_doStep_234 ?_
  refine V.iconst (v := nI 1) (by decide) dX8_doStep_235 ?_
  refine V.iaddN dX8_doStep_236 ?_
  refine V.ri dX8_doStep_237 rfl ?_
  exact ⟨rfl, by rw [← ht, upI_i], mz_DA_l⟩
set_option maxRecDepth 100000 in
set_option maxHeartbeats 4000000 in
theorem md_doStep7 {G : am_G} (I A : Nat → Nat → Int32) (s : Nat) (hs : s < 60) (t : Nat) (ht : I mM 19 = nI t) (ht2 : t < 4000) (ek : A m_ops s = nI 7) (a : Nat) (ha : a < 24) (ea : A m_first s = nI a) (b : Nat) (hb : b < 24) (eb : A m_second s = nI b) (c : Nat) (hc : c < 61) (ec : A m_third s = nI c) : Cm G MX8_doStep 1 22 [.ref mM, .int (nI s)] I A (fun r I' A' => r = some (.int (nI (if (A m_now) b ≤ (A m_now) a then s + 1 else c))) ∧ upI I mM 19 (nI (t)) = I' ∧ mz_DA A ((A m_now)) ((A m_left)) ((A m_said)) = A') := by
  refine Cm.of (by decide) (Nat.le_of_ble_eq_true rfl) rfl ?_
  show V G MX8_doStep (am_R 1 22 0 0) _ 0 0 0 [(0, .ref mM), (1, .int (nI s))] [] (hp I A)
  refine V.aload_n (j := 0) rfl dX8_doStep_0 ?_
  refine V.getr (q := m_first) dX8_doStep_1 fX8_16 rfl rfl ?_
  refine V.iload_n (j := 1) rfl dX8_doStep_4 ?_
  refine V.lda (v := nI a) dX8_doStep_5 rfl (by omega) (by decide) ea ?_
  refine V.istore_n (ls' := [(0, .ref mM), (1, .int (nI s)), (2, .int (nI a))]) dX8_doStep_6 (by decide) rfl ?_
  refine V.aload_n (j := 0) rfl dX8_doStep_7 ?_
  refine V.getr (q := m_second) dX8_doStep_8 fX8_19 rfl rfl ?_
  refine V.iload_n (j := 1) rfl dX8_doStep_11 ?_
  refine V.lda (v := nI b) dX8_doStep_12 rfl (by omega) (by decide) eb ?_
  refine V.istore_n (ls' := [(0, .ref mM), (1, .int (nI s)), (2, .int (nI a)), (3, .int (nI b))]) dX8_doStep_13 (by decide) rfl ?_
  refine V.aload_n (j := 0) rfl dX8_doStep_14 ?_
  refine V.getr (q := m_third) dX8_doStep_15 fX8_22 rfl rfl ?_
  refine V.iload_n (j := 1) rfl dX8_doStep_18 ?_
  refine V.lda (v := nI c) dX8_doStep_19 rfl (by omega) (by decide) ec ?_
  refine V.istore (ls' := [(0, .ref mM), (1, .int (nI s)), (2, .int (nI a)), (3, .int (nI b)), (4, .int (nI c))]) dX8_doStep_20 (by decide) rfl ?_
  refine V.aload_n (j := 0) rfl dX8_doStep_22 ?_
  refine V.getr (q := m_ops) dX8_doStep_23 fX8_13 rfl rfl ?_
  refine V.iload_n (j := 1) rfl dX8_doStep_26 ?_
  refine V.lda (v := nI 7) dX8_doStep_27 rfl (by omega) (by decide) ek ?_
  refine V.tableIn (tgt := 192) dX8_doStep_28 (by decide) (by decide) rfl (by decide) ?_
  refine V.aload_n (j := 0) rfl dX8_doStep_192 ?_
  refine V.getr (q := m_now) dX8_doStep_193 fX8_70 rfl rfl ?_
  refine V.iload_n (j := 2) rfl dX8_doStep_196 ?_
  refine V.lda (v := A m_now a) dX8_doStep_197 rfl (by omega) (by decide) rfl ?_
  refine V.aload_n (j := 0) rfl dX8_doStep_198 ?_
  refine V.getr (q := m_now) dX8_doStep_199 fX8_70 rfl rfl ?_
  refine V.iload_n (j := 3) rfl dX8_doStep_202 ?_
  refine V.lda (v := A m_now b) dX8_doStep_203 rfl (by omega) (by decide) rfl ?_
  refine V.icmp_ge (tgt := 212) dX8_doStep_204 (by decide) (fun c1 => ?_) (fun c1 => ?_)
  · refine V.iload_n (j := 1) rfl dX8_doStep_212 ?_
    refine V.iconst (v := nI 1) (by decide) dX8_doStep_213 ?_
    refine V.iaddN dX8_doStep_214 ?_
    refine V.ri dX8_doStep_215 rfl ?_
    exact ⟨by rw [if_pos c1], by rw [← ht, upI_i], mz_DA_i⟩
  · refine V.iload (j := 4) rfl dX8_doStep_207 ?_
    refine V.goto (tgt := 215) dX8_doStep_209 (by decide) ?_
    refine V.ri dX8_doStep_215 rfl ?_
    exact ⟨by rw [if_neg c1], by rw [← ht, upI_i], mz_DA_i⟩
set_option maxRecDepth 100000 in
set_option maxHeartbeats 4000000 in
theorem md_doStep8 {G : am_G} (I A : Nat → Nat → Int32) (s : Nat) (hs : s < 60) (t : Nat) (ht : I mM 19 = nI t) (ht2 : t < 4000) (ek : A m_ops s = nI 8) (a : Nat) (ha : a < 61) (ea : A m_first s = nI a) : Cm G MX8_doStep 1 22 [.ref mM, .int (nI s)] I A (fun r I' A' => r = some (.int (nI (a))) ∧ upI I mM 19 (nI (t)) = I' ∧ mz_DA A ((A m_now)) ((A m_left)) ((A m_said)) = A') := by
  refine Cm.of (by decide) (Nat.le_of_ble_eq_true rfl) rfl ?_
  show V G MX8_doStep (am_R 1 22 0 0) _ 0 0 0 [(0, .ref mM), (1, .int (nI s))] [] (hp I A)
  refine V.aload_n (j := 0) rfl dX8_doStep_0 ?_
  refine V.getr (q := m_first) dX8_doStep_1 fX8_16 rfl rfl ?_
  refine V.iload_n (j := 1) rfl dX8_doStep_4 ?_
  refine V.lda (v := nI a) dX8_doStep_5 rfl (by omega) (by decide) ea ?_
  refine V.istore_n (ls' := [(0, .ref mM), (1, .int (nI s)), (2, .int (nI a))]) dX8_doStep_6 (by decide) rfl ?_
  refine V.aload_n (j := 0) rfl dX8_doStep_7 ?_
  refine V.getr (q := m_second) dX8_doStep_8 fX8_19 rfl rfl ?_
  refine V.iload_n (j := 1) rfl dX8_doStep_11 ?_
  refine V.lda (v := A m_second s) dX8_doStep_12 rfl (by omega) (by decide) rfl ?_
  refine V.istore_n (ls' := [(0, .ref mM), (1, .int (nI s)), (2, .int (nI a)), (3, .int (A m_second s))]) dX8_doStep_13 (by decide) rfl ?_
  refine V.aload_n (j := 0) rfl dX8_doStep_14 ?_
  refine V.getr (q := m_third) dX8_doStep_15 fX8_22 rfl rfl ?_
  refine V.iload_n (j := 1) rfl dX8_doStep_18 ?_
  refine V.lda (v := A m_third s) dX8_doStep_19 rfl (by omega) (by decide) rfl ?_
  refine V.istore (ls' := [(0, .ref mM), (1, .int (nI s)), (2, .int (nI a)), (3, .int (A m_second s)), (4, .int (A m_third s))]) dX8_doStep_20 (by decide) rfl ?_
  refine V.aload_n (j := 0) rfl dX8_doStep_22 ?_
  refine V.getr (q := m_ops) dX8_doStep_23 fX8_13 rfl rfl ?_
  refine V.iload_n (j := 1) rfl dX8_doStep_26 ?_
  refine V.lda (v := nI 8) dX8_doStep_27 rfl (by omega) (by decide) ek ?_
  refine V.tableIn (tgt := 216) dX8_doStep_28 (by decide) (by decide) rfl (by decide) ?_
  refine V.iload_n (j := 2) rfl dX8_doStep_216 ?_
  refine V.ri dX8_doStep_217 rfl ?_
  exact ⟨rfl, by rw [← ht, upI_i], mz_DA_i⟩
set_option maxRecDepth 100000 in
set_option maxHeartbeats 4000000 in
theorem md_doStep9 {G : am_G} (I A : Nat → Nat → Int32) (s : Nat) (hs : s < 60) (t : Nat) (ht : I mM 19 = nI t) (ht2 : t < 4000) (ek : A m_ops s = nI 9) (a : Nat) (ha : a < 24) (ea : A m_first s = nI a) : Cm G MX8_doStep 1 22 [.ref mM, .int (nI s)] I A (fun r I' A' => r = some (.int (nI (s + 1))) ∧ upI I mM 19 (nI (t + 1)) = I' ∧ mz_DA A ((A m_now)) ((A m_left)) (mz_sy t (A m_said) ((A m_now) a)) = A') := by
  refine Cm.of (by decide) (Nat.le_of_ble_eq_true rfl) rfl ?_
  show V G MX8_doStep (am_R 1 22 0 0) _ 0 0 0 [(0, .ref mM), (1, .int (nI s))] [] (hp I A)
  refine V.aload_n (j := 0) rfl dX8_doStep_0 ?_
  refine V.getr (q := m_first) dX8_doStep_1 fX8_16 rfl rfl ?_
  refine V.iload_n (j := 1) rfl dX8_doStep_4 ?_
  refine V.lda (v := nI a) dX8_doStep_5 rfl (by omega) (by decide) ea ?_
  refine V.istore_n (ls' := [(0, .ref mM), (1, .int (nI s)), (2, .int (nI a))]) dX8_doStep_6 (by decide) rfl ?_
  refine V.aload_n (j := 0) rfl dX8_doStep_7 ?_
  refine V.getr (q := m_second) dX8_doStep_8 fX8_19 rfl rfl ?_
  refine V.iload_n (j := 1) rfl dX8_doStep_11 ?_
  refine V.lda (v := A m_second s) dX8_doStep_12 rfl (by omega) (by decide) rfl ?_
  refine V.istore_n (ls' := [(0, .ref mM), (1, .int (nI s)), (2, .int (nI a)), (3, .int (A m_second s))]) dX8_doStep_13 (by decide) rfl ?_
  refine V.aload_n (j := 0) rfl dX8_doStep_14 ?_
  refine V.getr (q := m_third) dX8_doStep_15 fX8_22 rfl rfl ?_
  refine V.iload_n (j := 1) rfl dX8_doStep_18 ?_
  refine V.lda (v := A m_third s) dX8_doStep_19 rfl (by omega) (by decide) rfl ?_
  refine V.istore (ls' := [(0, .ref mM), (1, .int (nI s)), (2, .int (nI a)), (3, .int (A m_second s)), (4, .int (A m_third s))]) dX8_doStep_20 (by decide) rfl ?_
  refine V.aload_n (j := 0) rfl dX8_doStep_22 ?_
  refine V.getr (q := m_ops) dX8_doStep_23 fX8_13 rfl rfl ?_
  refine V.iload_n (j := 1) rfl dX8_doStep_26 ?_
  refine V.lda (v := nI 9) dX8_doStep_27 rfl (by omega) (by decide) ek ?_
  refine V.tableIn (tgt := 218) dX8_doStep_28 (by decide) (by decide) rfl (by decide) ?_
  refine V.aload_n (j := 0) rfl dX8_doStep_218 ?_
  refine V.aload_n (j := 0) rfl dX8_doStep_219 ?_
  refine V.getr (q := m_now) dX8_doStep_220 fX8_70 rfl rfl ?_
  refine V.iload_n (j := 2) rfl dX8_doStep_223 ?_
  refine V.lda (v := A m_now a) dX8_doStep_224 rfl (by omega) (by decide) rfl ?_
  refine V.cV (As := [.int (A m_now a)]) (st := []) dX8_doStep_225 sX8_182 iX8_say lX8_say rfl rfl (md_say I A t ht (by omega) _) ⟨by decide, by decide⟩ (Nat.le_of_ble_eq_true rfl) rfl (fun r I' A' hq => ?_)
  obtain ⟨rfl, rfl, rfl⟩ := hq
  refine V.st (st' := []) rfl ?_
  refine V.goto (tgt := 234) dX8_doStep_228 (by decide) ?_
  refine V.iload_n (j := 1) rfl dX8_doStep_234 ?_
  refine V.iconst (v := nI 1) (by decide) dX8_doStep_235 ?_
  refine V.iaddN dX8_doStep_236 ?_
  refine V.ri dX8_doStep_237 rfl ?_
  exact ⟨rfl, rfl, mz_DA_s⟩
set_option maxRecDepth 100000 in
set_option maxHeartbeats 4000000 in
theorem md_doStep10 {G : am_G} (I A : Nat → Nat → Int32) (s : Nat) (hs : s < 60) (t : Nat) (ht : I mM 19 = nI t) (ht2 : t < 4000) (ek : A m_ops s = nI 10)  : Cm G MX8_doStep 1 22 [.ref mM, .int (nI s)] I A (fun r I' A' => r = some (.int (nI (60))) ∧ upI I mM 19 (nI (t)) = I' ∧ mz_DA A ((A m_now)) ((A m_left)) ((A m_said)) = A') := by
  refine Cm.of (by decide) (Nat.le_of_ble_eq_true rfl) rfl ?_
  show V G MX8_doStep (am_R 1 22 0 0) _ 0 0 0 [(0, .ref mM), (1, .int (nI s))] [] (hp I A)
  refine V.aload_n (j := 0) rfl dX8_doStep_0 ?_
  refine V.getr (q := m_first) dX8_doStep_1 fX8_16 rfl rfl ?_
  refine V.iload_n (j := 1) rfl dX8_doStep_4 ?_
  refine V.lda (v := A m_first s) dX8_doStep_5 rfl (by omega) (by decide) rfl ?_
  refine V.istore_n (ls' := [(0, .ref mM), (1, .int (nI s)), (2, .int (A m_first s))]) dX8_doStep_6 (by decide) rfl ?_
  refine V.aload_n (j := 0) rfl dX8_doStep_7 ?_
  refine V.getr (q := m_second) dX8_doStep_8 fX8_19 rfl rfl ?_
  refine V.iload_n (j := 1) rfl dX8_doStep_11 ?_
  refine V.lda (v := A m_second s) dX8_doStep_12 rfl (by omega) (by decide) rfl ?_
  refine V.istore_n (ls' := [(0, .ref mM), (1, .int (nI s)), (2, .int (A m_first s)), (3, .int (A m_second s))]) dX8_doStep_13 (by decide) rfl ?_
  refine V.aload_n (j := 0) rfl dX8_doStep_14 ?_
  refine V.getr (q := m_third) dX8_doStep_15 fX8_22 rfl rfl ?_
  refine V.iload_n (j := 1) rfl dX8_doStep_18 ?_
  refine V.lda (v := A m_third s) dX8_doStep_19 rfl (by omega) (by decide) rfl ?_
  refine V.istore (ls' := [(0, .ref mM), (1, .int (nI s)), (2, .int (A m_first s)), (3, .int (A m_second s)), (4, .int (A m_third s))]) dX8_doStep_20 (by decide) rfl ?_
  refine V.aload_n (j := 0) rfl dX8_doStep_22 ?_
  refine V.getr (q := m_ops) dX8_doStep_23 fX8_13 rfl rfl ?_
  refine V.iload_n (j := 1) rfl dX8_doStep_26 ?_
  refine V.lda (v := nI 10) dX8_doStep_27 rfl (by omega) (by decide) ek ?_
  refine V.tableOut (tgt := 231) dX8_doStep_28 (by decide) (by decide) ?_
  refine V.bipush (v := nI 60) (by decide) dX8_doStep_231 ?_
  refine V.ri dX8_doStep_233 rfl ?_
  exact ⟨rfl, by rw [← ht, upI_i], mz_DA_i⟩
end
