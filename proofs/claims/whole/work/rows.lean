section
-- ===== PART A: goes FIRST, ahead of the names: the tables' words, and 'selects' of the private methods out of them =====
/-- a private method of a class that the tables say can be made, by its rows of tables_1 -/
def lw_okq (q : MethodName × Nat) : Prop := (q.1.cls ≠ "java/lang/invoke/MethodHandle" ∧ q.1.cls ≠ "java/lang/invoke/VarHandle") ∧ Cond.instantiable q.1.cls q.2 ∈ tables_1 ∧ Cond.privateMethod q.1 ∈ tables_1 ∧ Cond.instanceMethod q.1 ∈ tables_1
theorem lw_p0 : lw_okq (⟨"RegisterHouse$Program", "namesValues", "(IIII)Z"⟩, 7) := ⟨⟨by decide +kernel, by decide +kernel⟩, List.mem_of_getElem? (i := 21) (by decide +kernel), List.mem_of_getElem? (i := 269) (by decide +kernel), List.mem_of_getElem? (i := 270) (by decide +kernel)⟩
theorem lw_p1 : lw_okq (⟨"RegisterHouse$Program", "takenOf", "(II)I"⟩, 7) := ⟨⟨by decide +kernel, by decide +kernel⟩, List.mem_of_getElem? (i := 21) (by decide +kernel), List.mem_of_getElem? (i := 294) (by decide +kernel), List.mem_of_getElem? (i := 295) (by decide +kernel)⟩
theorem lw_p2 : lw_okq (⟨"RegisterHouse", "workOut", "(I)V"⟩, 12) := ⟨⟨by decide +kernel, by decide +kernel⟩, List.mem_of_getElem? (i := 13) (by decide +kernel), List.mem_of_getElem? (i := 321) (by decide +kernel), List.mem_of_getElem? (i := 322) (by decide +kernel)⟩
theorem lw_p3 : lw_okq (⟨"RegisterHouse$Flow", "liveBefore", "(LRegisterHouse$Program;I)I"⟩, 2) := ⟨⟨by decide +kernel, by decide +kernel⟩, List.mem_of_getElem? (i := 114) (by decide +kernel), List.mem_of_getElem? (i := 329) (by decide +kernel), List.mem_of_getElem? (i := 330) (by decide +kernel)⟩
theorem lw_p4 : lw_okq (⟨"RegisterHouse$Flow", "behind", "(LRegisterHouse$Listing;I)I"⟩, 2) := ⟨⟨by decide +kernel, by decide +kernel⟩, List.mem_of_getElem? (i := 114) (by decide +kernel), List.mem_of_getElem? (i := 333) (by decide +kernel), List.mem_of_getElem? (i := 334) (by decide +kernel)⟩
theorem lw_p5 : lw_okq (⟨"RegisterHouse$Flow", "beforeIfThere", "(LRegisterHouse$Listing;I)I"⟩, 2) := ⟨⟨by decide +kernel, by decide +kernel⟩, List.mem_of_getElem? (i := 114) (by decide +kernel), List.mem_of_getElem? (i := 341) (by decide +kernel), List.mem_of_getElem? (i := 342) (by decide +kernel)⟩
theorem lw_p6 : lw_okq (⟨"RegisterHouse$Flow", "blockedIn", "(LRegisterHouse$Program;II)I"⟩, 2) := ⟨⟨by decide +kernel, by decide +kernel⟩, List.mem_of_getElem? (i := 114) (by decide +kernel), List.mem_of_getElem? (i := 357) (by decide +kernel), List.mem_of_getElem? (i := 358) (by decide +kernel)⟩
theorem lw_p7 : lw_okq (⟨"RegisterHouse$Flow", "blockAll", "(II)V"⟩, 2) := ⟨⟨by decide +kernel, by decide +kernel⟩, List.mem_of_getElem? (i := 114) (by decide +kernel), List.mem_of_getElem? (i := 362) (by decide +kernel), List.mem_of_getElem? (i := 363) (by decide +kernel)⟩
theorem lw_p8 : lw_okq (⟨"RegisterHouse$Homes", "forget", "(I)V"⟩, 5) := ⟨⟨by decide +kernel, by decide +kernel⟩, List.mem_of_getElem? (i := 129) (by decide +kernel), List.mem_of_getElem? (i := 371) (by decide +kernel), List.mem_of_getElem? (i := 372) (by decide +kernel)⟩
theorem lw_p9 : lw_okq (⟨"RegisterHouse$Homes", "weigh", "(LRegisterHouse$Listing;I)V"⟩, 5) := ⟨⟨by decide +kernel, by decide +kernel⟩, List.mem_of_getElem? (i := 129) (by decide +kernel), List.mem_of_getElem? (i := 375) (by decide +kernel), List.mem_of_getElem? (i := 376) (by decide +kernel)⟩
theorem lw_p10 : lw_okq (⟨"RegisterHouse$Homes", "join", "(LRegisterHouse$Program;I)V"⟩, 5) := ⟨⟨by decide +kernel, by decide +kernel⟩, List.mem_of_getElem? (i := 129) (by decide +kernel), List.mem_of_getElem? (i := 382) (by decide +kernel), List.mem_of_getElem? (i := 383) (by decide +kernel)⟩
theorem lw_p11 : lw_okq (⟨"RegisterHouse$Homes", "line", "(I)V"⟩, 5) := ⟨⟨by decide +kernel, by decide +kernel⟩, List.mem_of_getElem? (i := 129) (by decide +kernel), List.mem_of_getElem? (i := 387) (by decide +kernel), List.mem_of_getElem? (i := 388) (by decide +kernel)⟩
theorem lw_p12 : lw_okq (⟨"RegisterHouse$Homes", "placeFor", "(III)I"⟩, 5) := ⟨⟨by decide +kernel, by decide +kernel⟩, List.mem_of_getElem? (i := 129) (by decide +kernel), List.mem_of_getElem? (i := 391) (by decide +kernel), List.mem_of_getElem? (i := 392) (by decide +kernel)⟩
theorem lw_p13 : lw_okq (⟨"RegisterHouse$Homes", "placesOf", "(II)I"⟩, 5) := ⟨⟨by decide +kernel, by decide +kernel⟩, List.mem_of_getElem? (i := 129) (by decide +kernel), List.mem_of_getElem? (i := 395) (by decide +kernel), List.mem_of_getElem? (i := 396) (by decide +kernel)⟩
theorem lw_p14 : lw_okq (⟨"RegisterHouse$Tidier", "firstNeedless", "(LRegisterHouse$Listing;)I"⟩, 1) := ⟨⟨by decide +kernel, by decide +kernel⟩, List.mem_of_getElem? (i := 166) (by decide +kernel), List.mem_of_getElem? (i := 448) (by decide +kernel), List.mem_of_getElem? (i := 449) (by decide +kernel)⟩
theorem lw_p15 : lw_okq (⟨"RegisterHouse$Tidier", "markLed", "(LRegisterHouse$Listing;)V"⟩, 1) := ⟨⟨by decide +kernel, by decide +kernel⟩, List.mem_of_getElem? (i := 166) (by decide +kernel), List.mem_of_getElem? (i := 452) (by decide +kernel), List.mem_of_getElem? (i := 453) (by decide +kernel)⟩
def lw_privs_1 : List (MethodName × Nat) := [(⟨"RegisterHouse$Program", "namesValues", "(IIII)Z"⟩, 7), (⟨"RegisterHouse$Program", "takenOf", "(II)I"⟩, 7), (⟨"RegisterHouse", "workOut", "(I)V"⟩, 12), (⟨"RegisterHouse$Flow", "liveBefore", "(LRegisterHouse$Program;I)I"⟩, 2), (⟨"RegisterHouse$Flow", "behind", "(LRegisterHouse$Listing;I)I"⟩, 2), (⟨"RegisterHouse$Flow", "beforeIfThere", "(LRegisterHouse$Listing;I)I"⟩, 2), (⟨"RegisterHouse$Flow", "blockedIn", "(LRegisterHouse$Program;II)I"⟩, 2), (⟨"RegisterHouse$Flow", "blockAll", "(II)V"⟩, 2), (⟨"RegisterHouse$Homes", "forget", "(I)V"⟩, 5), (⟨"RegisterHouse$Homes", "weigh", "(LRegisterHouse$Listing;I)V"⟩, 5), (⟨"RegisterHouse$Homes", "join", "(LRegisterHouse$Program;I)V"⟩, 5), (⟨"RegisterHouse$Homes", "line", "(I)V"⟩, 5), (⟨"RegisterHouse$Homes", "placeFor", "(III)I"⟩, 5), (⟨"RegisterHouse$Homes", "placesOf", "(II)I"⟩, 5), (⟨"RegisterHouse$Tidier", "firstNeedless", "(LRegisterHouse$Listing;)I"⟩, 1), (⟨"RegisterHouse$Tidier", "markLed", "(LRegisterHouse$Listing;)V"⟩, 1)]
theorem lw_r1 : ∀ q ∈ lw_privs_1, lw_okq q := List.forall_mem_cons.mpr ⟨lw_p0, List.forall_mem_cons.mpr ⟨lw_p1, List.forall_mem_cons.mpr ⟨lw_p2, List.forall_mem_cons.mpr ⟨lw_p3, List.forall_mem_cons.mpr ⟨lw_p4, List.forall_mem_cons.mpr ⟨lw_p5, List.forall_mem_cons.mpr ⟨lw_p6, List.forall_mem_cons.mpr ⟨lw_p7, List.forall_mem_cons.mpr ⟨lw_p8, List.forall_mem_cons.mpr ⟨lw_p9, List.forall_mem_cons.mpr ⟨lw_p10, List.forall_mem_cons.mpr ⟨lw_p11, List.forall_mem_cons.mpr ⟨lw_p12, List.forall_mem_cons.mpr ⟨lw_p13, List.forall_mem_cons.mpr ⟨lw_p14, List.forall_mem_cons.mpr ⟨lw_p15, fun _ h => absurd h List.not_mem_nil⟩⟩⟩⟩⟩⟩⟩⟩⟩⟩⟩⟩⟩⟩⟩⟩
theorem lw_p16 : lw_okq (⟨"RegisterHouse", "listingOf", "(I)LRegisterHouse$Listing;"⟩, 12) := ⟨⟨by decide +kernel, by decide +kernel⟩, List.mem_of_getElem? (i := 13) (by decide +kernel), List.mem_of_getElem? (i := 514) (by decide +kernel), List.mem_of_getElem? (i := 515) (by decide +kernel)⟩
theorem lw_p17 : lw_okq (⟨"RegisterHouse$Machine", "begin", "([I)V"⟩, 6) := ⟨⟨by decide +kernel, by decide +kernel⟩, List.mem_of_getElem? (i := 179) (by decide +kernel), List.mem_of_getElem? (i := 527) (by decide +kernel), List.mem_of_getElem? (i := 528) (by decide +kernel)⟩
theorem lw_p18 : lw_okq (⟨"RegisterHouse$Machine", "lineBehind", "(LRegisterHouse$Listing;I)I"⟩, 6) := ⟨⟨by decide +kernel, by decide +kernel⟩, List.mem_of_getElem? (i := 179) (by decide +kernel), List.mem_of_getElem? (i := 531) (by decide +kernel), List.mem_of_getElem? (i := 532) (by decide +kernel)⟩
theorem lw_p19 : lw_okq (⟨"RegisterHouse$Machine", "act", "(IIII)V"⟩, 6) := ⟨⟨by decide +kernel, by decide +kernel⟩, List.mem_of_getElem? (i := 179) (by decide +kernel), List.mem_of_getElem? (i := 535) (by decide +kernel), List.mem_of_getElem? (i := 536) (by decide +kernel)⟩
theorem lw_p20 : lw_okq (⟨"RegisterHouse$Machine", "cellAt", "(II)I"⟩, 6) := ⟨⟨by decide +kernel, by decide +kernel⟩, List.mem_of_getElem? (i := 179) (by decide +kernel), List.mem_of_getElem? (i := 539) (by decide +kernel), List.mem_of_getElem? (i := 540) (by decide +kernel)⟩
theorem lw_p21 : lw_okq (⟨"RegisterHouse$Machine", "speak", "(I)V"⟩, 6) := ⟨⟨by decide +kernel, by decide +kernel⟩, List.mem_of_getElem? (i := 179) (by decide +kernel), List.mem_of_getElem? (i := 546) (by decide +kernel), List.mem_of_getElem? (i := 547) (by decide +kernel)⟩
theorem lw_p22 : lw_okq (⟨"RegisterHouseModel", "mayBe", "(IIII)Z"⟩, 28) := ⟨⟨by decide +kernel, by decide +kernel⟩, List.mem_of_getElem? (i := 585) (by decide +kernel), List.mem_of_getElem? (i := 684) (by decide +kernel), List.mem_of_getElem? (i := 685) (by decide +kernel)⟩
theorem lw_p23 : lw_okq (⟨"RegisterHouseModel", "isValue", "(I)Z"⟩, 28) := ⟨⟨by decide +kernel, by decide +kernel⟩, List.mem_of_getElem? (i := 585) (by decide +kernel), List.mem_of_getElem? (i := 688) (by decide +kernel), List.mem_of_getElem? (i := 689) (by decide +kernel)⟩
theorem lw_p24 : lw_okq (⟨"RegisterHouseModel", "isOf", "(II)Z"⟩, 28) := ⟨⟨by decide +kernel, by decide +kernel⟩, List.mem_of_getElem? (i := 585) (by decide +kernel), List.mem_of_getElem? (i := 692) (by decide +kernel), List.mem_of_getElem? (i := 693) (by decide +kernel)⟩
theorem lw_p25 : lw_okq (⟨"RegisterHouseModel", "flow", "()V"⟩, 28) := ⟨⟨by decide +kernel, by decide +kernel⟩, List.mem_of_getElem? (i := 585) (by decide +kernel), List.mem_of_getElem? (i := 712) (by decide +kernel), List.mem_of_getElem? (i := 713) (by decide +kernel)⟩
theorem lw_p26 : lw_okq (⟨"RegisterHouseModel", "liveAt", "(I)I"⟩, 28) := ⟨⟨by decide +kernel, by decide +kernel⟩, List.mem_of_getElem? (i := 585) (by decide +kernel), List.mem_of_getElem? (i := 716) (by decide +kernel), List.mem_of_getElem? (i := 717) (by decide +kernel)⟩
theorem lw_p27 : lw_okq (⟨"RegisterHouseModel", "anew", "(I)I"⟩, 28) := ⟨⟨by decide +kernel, by decide +kernel⟩, List.mem_of_getElem? (i := 585) (by decide +kernel), List.mem_of_getElem? (i := 720) (by decide +kernel), List.mem_of_getElem? (i := 721) (by decide +kernel)⟩
theorem lw_p28 : lw_okq (⟨"RegisterHouseModel", "taking", "(I)I"⟩, 28) := ⟨⟨by decide +kernel, by decide +kernel⟩, List.mem_of_getElem? (i := 585) (by decide +kernel), List.mem_of_getElem? (i := 724) (by decide +kernel), List.mem_of_getElem? (i := 725) (by decide +kernel)⟩
theorem lw_p29 : lw_okq (⟨"RegisterHouseModel", "taken", "(II)I"⟩, 28) := ⟨⟨by decide +kernel, by decide +kernel⟩, List.mem_of_getElem? (i := 585) (by decide +kernel), List.mem_of_getElem? (i := 728) (by decide +kernel), List.mem_of_getElem? (i := 729) (by decide +kernel)⟩
theorem lw_p30 : lw_okq (⟨"RegisterHouseModel", "meet", "()V"⟩, 28) := ⟨⟨by decide +kernel, by decide +kernel⟩, List.mem_of_getElem? (i := 585) (by decide +kernel), List.mem_of_getElem? (i := 736) (by decide +kernel), List.mem_of_getElem? (i := 737) (by decide +kernel)⟩
theorem lw_p31 : lw_okq (⟨"RegisterHouseModel", "settle", "()V"⟩, 28) := ⟨⟨by decide +kernel, by decide +kernel⟩, List.mem_of_getElem? (i := 585) (by decide +kernel), List.mem_of_getElem? (i := 748) (by decide +kernel), List.mem_of_getElem? (i := 749) (by decide +kernel)⟩
def lw_privs_2 : List (MethodName × Nat) := [(⟨"RegisterHouse", "listingOf", "(I)LRegisterHouse$Listing;"⟩, 12), (⟨"RegisterHouse$Machine", "begin", "([I)V"⟩, 6), (⟨"RegisterHouse$Machine", "lineBehind", "(LRegisterHouse$Listing;I)I"⟩, 6), (⟨"RegisterHouse$Machine", "act", "(IIII)V"⟩, 6), (⟨"RegisterHouse$Machine", "cellAt", "(II)I"⟩, 6), (⟨"RegisterHouse$Machine", "speak", "(I)V"⟩, 6), (⟨"RegisterHouseModel", "mayBe", "(IIII)Z"⟩, 28), (⟨"RegisterHouseModel", "isValue", "(I)Z"⟩, 28), (⟨"RegisterHouseModel", "isOf", "(II)Z"⟩, 28), (⟨"RegisterHouseModel", "flow", "()V"⟩, 28), (⟨"RegisterHouseModel", "liveAt", "(I)I"⟩, 28), (⟨"RegisterHouseModel", "anew", "(I)I"⟩, 28), (⟨"RegisterHouseModel", "taking", "(I)I"⟩, 28), (⟨"RegisterHouseModel", "taken", "(II)I"⟩, 28), (⟨"RegisterHouseModel", "meet", "()V"⟩, 28), (⟨"RegisterHouseModel", "settle", "()V"⟩, 28)]
theorem lw_r2 : ∀ q ∈ lw_privs_2, lw_okq q := List.forall_mem_cons.mpr ⟨lw_p16, List.forall_mem_cons.mpr ⟨lw_p17, List.forall_mem_cons.mpr ⟨lw_p18, List.forall_mem_cons.mpr ⟨lw_p19, List.forall_mem_cons.mpr ⟨lw_p20, List.forall_mem_cons.mpr ⟨lw_p21, List.forall_mem_cons.mpr ⟨lw_p22, List.forall_mem_cons.mpr ⟨lw_p23, List.forall_mem_cons.mpr ⟨lw_p24, List.forall_mem_cons.mpr ⟨lw_p25, List.forall_mem_cons.mpr ⟨lw_p26, List.forall_mem_cons.mpr ⟨lw_p27, List.forall_mem_cons.mpr ⟨lw_p28, List.forall_mem_cons.mpr ⟨lw_p29, List.forall_mem_cons.mpr ⟨lw_p30, List.forall_mem_cons.mpr ⟨lw_p31, fun _ h => absurd h List.not_mem_nil⟩⟩⟩⟩⟩⟩⟩⟩⟩⟩⟩⟩⟩⟩⟩⟩
theorem lw_p32 : lw_okq (⟨"RegisterHouseModel", "homeFor", "(I)I"⟩, 28) := ⟨⟨by decide +kernel, by decide +kernel⟩, List.mem_of_getElem? (i := 585) (by decide +kernel), List.mem_of_getElem? (i := 752) (by decide +kernel), List.mem_of_getElem? (i := 753) (by decide +kernel)⟩
theorem lw_p33 : lw_okq (⟨"RegisterHouseModel", "isJoined", "(II)Z"⟩, 28) := ⟨⟨by decide +kernel, by decide +kernel⟩, List.mem_of_getElem? (i := 585) (by decide +kernel), List.mem_of_getElem? (i := 756) (by decide +kernel), List.mem_of_getElem? (i := 757) (by decide +kernel)⟩
theorem lw_p34 : lw_okq (⟨"RegisterHouseModel", "isFree", "(II)Z"⟩, 28) := ⟨⟨by decide +kernel, by decide +kernel⟩, List.mem_of_getElem? (i := 585) (by decide +kernel), List.mem_of_getElem? (i := 760) (by decide +kernel), List.mem_of_getElem? (i := 761) (by decide +kernel)⟩
theorem lw_p35 : lw_okq (⟨"RegisterHouseModel", "makeCode", "()V"⟩, 28) := ⟨⟨by decide +kernel, by decide +kernel⟩, List.mem_of_getElem? (i := 585) (by decide +kernel), List.mem_of_getElem? (i := 772) (by decide +kernel), List.mem_of_getElem? (i := 773) (by decide +kernel)⟩
theorem lw_p36 : lw_okq (⟨"RegisterHouseModel", "makeStep", "(I)V"⟩, 28) := ⟨⟨by decide +kernel, by decide +kernel⟩, List.mem_of_getElem? (i := 585) (by decide +kernel), List.mem_of_getElem? (i := 776) (by decide +kernel), List.mem_of_getElem? (i := 777) (by decide +kernel)⟩
theorem lw_p37 : lw_okq (⟨"RegisterHouseModel", "fetch", "(I)V"⟩, 28) := ⟨⟨by decide +kernel, by decide +kernel⟩, List.mem_of_getElem? (i := 585) (by decide +kernel), List.mem_of_getElem? (i := 780) (by decide +kernel), List.mem_of_getElem? (i := 781) (by decide +kernel)⟩
theorem lw_p38 : lw_okq (⟨"RegisterHouseModel", "lay", "(IIII)V"⟩, 28) := ⟨⟨by decide +kernel, by decide +kernel⟩, List.mem_of_getElem? (i := 585) (by decide +kernel), List.mem_of_getElem? (i := 787) (by decide +kernel), List.mem_of_getElem? (i := 788) (by decide +kernel)⟩
theorem lw_p39 : lw_okq (⟨"RegisterHouseModel", "to", "(I)I"⟩, 28) := ⟨⟨by decide +kernel, by decide +kernel⟩, List.mem_of_getElem? (i := 585) (by decide +kernel), List.mem_of_getElem? (i := 791) (by decide +kernel), List.mem_of_getElem? (i := 792) (by decide +kernel)⟩
theorem lw_p40 : lw_okq (⟨"RegisterHouseModel", "from", "(I)I"⟩, 28) := ⟨⟨by decide +kernel, by decide +kernel⟩, List.mem_of_getElem? (i := 585) (by decide +kernel), List.mem_of_getElem? (i := 795) (by decide +kernel), List.mem_of_getElem? (i := 796) (by decide +kernel)⟩
theorem lw_p41 : lw_okq (⟨"RegisterHouseModel", "needless", "()I"⟩, 28) := ⟨⟨by decide +kernel, by decide +kernel⟩, List.mem_of_getElem? (i := 585) (by decide +kernel), List.mem_of_getElem? (i := 799) (by decide +kernel), List.mem_of_getElem? (i := 800) (by decide +kernel)⟩
theorem lw_p42 : lw_okq (⟨"RegisterHouseModel", "leads", "(I)I"⟩, 28) := ⟨⟨by decide +kernel, by decide +kernel⟩, List.mem_of_getElem? (i := 585) (by decide +kernel), List.mem_of_getElem? (i := 803) (by decide +kernel), List.mem_of_getElem? (i := 804) (by decide +kernel)⟩
theorem lw_p43 : lw_okq (⟨"RegisterHouseModel", "isLedTo", "(I)Z"⟩, 28) := ⟨⟨by decide +kernel, by decide +kernel⟩, List.mem_of_getElem? (i := 585) (by decide +kernel), List.mem_of_getElem? (i := 807) (by decide +kernel), List.mem_of_getElem? (i := 808) (by decide +kernel)⟩
theorem lw_p44 : lw_okq (⟨"RegisterHouseModel", "take", "(I)V"⟩, 28) := ⟨⟨by decide +kernel, by decide +kernel⟩, List.mem_of_getElem? (i := 585) (by decide +kernel), List.mem_of_getElem? (i := 811) (by decide +kernel), List.mem_of_getElem? (i := 812) (by decide +kernel)⟩
theorem lw_p45 : lw_okq (⟨"RegisterHouseModel", "slotsOf", "(I)I"⟩, 28) := ⟨⟨by decide +kernel, by decide +kernel⟩, List.mem_of_getElem? (i := 585) (by decide +kernel), List.mem_of_getElem? (i := 815) (by decide +kernel), List.mem_of_getElem? (i := 816) (by decide +kernel)⟩
theorem lw_p46 : lw_okq (⟨"RegisterHouseModel", "begin", "()V"⟩, 28) := ⟨⟨by decide +kernel, by decide +kernel⟩, List.mem_of_getElem? (i := 585) (by decide +kernel), List.mem_of_getElem? (i := 827) (by decide +kernel), List.mem_of_getElem? (i := 828) (by decide +kernel)⟩
theorem lw_p47 : lw_okq (⟨"RegisterHouseModel", "doStep", "(I)I"⟩, 28) := ⟨⟨by decide +kernel, by decide +kernel⟩, List.mem_of_getElem? (i := 585) (by decide +kernel), List.mem_of_getElem? (i := 831) (by decide +kernel), List.mem_of_getElem? (i := 832) (by decide +kernel)⟩
def lw_privs_3 : List (MethodName × Nat) := [(⟨"RegisterHouseModel", "homeFor", "(I)I"⟩, 28), (⟨"RegisterHouseModel", "isJoined", "(II)Z"⟩, 28), (⟨"RegisterHouseModel", "isFree", "(II)Z"⟩, 28), (⟨"RegisterHouseModel", "makeCode", "()V"⟩, 28), (⟨"RegisterHouseModel", "makeStep", "(I)V"⟩, 28), (⟨"RegisterHouseModel", "fetch", "(I)V"⟩, 28), (⟨"RegisterHouseModel", "lay", "(IIII)V"⟩, 28), (⟨"RegisterHouseModel", "to", "(I)I"⟩, 28), (⟨"RegisterHouseModel", "from", "(I)I"⟩, 28), (⟨"RegisterHouseModel", "needless", "()I"⟩, 28), (⟨"RegisterHouseModel", "leads", "(I)I"⟩, 28), (⟨"RegisterHouseModel", "isLedTo", "(I)Z"⟩, 28), (⟨"RegisterHouseModel", "take", "(I)V"⟩, 28), (⟨"RegisterHouseModel", "slotsOf", "(I)I"⟩, 28), (⟨"RegisterHouseModel", "begin", "()V"⟩, 28), (⟨"RegisterHouseModel", "doStep", "(I)I"⟩, 28)]
theorem lw_r3 : ∀ q ∈ lw_privs_3, lw_okq q := List.forall_mem_cons.mpr ⟨lw_p32, List.forall_mem_cons.mpr ⟨lw_p33, List.forall_mem_cons.mpr ⟨lw_p34, List.forall_mem_cons.mpr ⟨lw_p35, List.forall_mem_cons.mpr ⟨lw_p36, List.forall_mem_cons.mpr ⟨lw_p37, List.forall_mem_cons.mpr ⟨lw_p38, List.forall_mem_cons.mpr ⟨lw_p39, List.forall_mem_cons.mpr ⟨lw_p40, List.forall_mem_cons.mpr ⟨lw_p41, List.forall_mem_cons.mpr ⟨lw_p42, List.forall_mem_cons.mpr ⟨lw_p43, List.forall_mem_cons.mpr ⟨lw_p44, List.forall_mem_cons.mpr ⟨lw_p45, List.forall_mem_cons.mpr ⟨lw_p46, List.forall_mem_cons.mpr ⟨lw_p47, fun _ h => absurd h List.not_mem_nil⟩⟩⟩⟩⟩⟩⟩⟩⟩⟩⟩⟩⟩⟩⟩⟩
theorem lw_p48 : lw_okq (⟨"RegisterHouseModel", "say", "(I)V"⟩, 28) := ⟨⟨by decide +kernel, by decide +kernel⟩, List.mem_of_getElem? (i := 585) (by decide +kernel), List.mem_of_getElem? (i := 838) (by decide +kernel), List.mem_of_getElem? (i := 839) (by decide +kernel)⟩
theorem lw_p49 : lw_okq (⟨"RegisterHouseModel", "doItem", "(II)I"⟩, 28) := ⟨⟨by decide +kernel, by decide +kernel⟩, List.mem_of_getElem? (i := 585) (by decide +kernel), List.mem_of_getElem? (i := 842) (by decide +kernel), List.mem_of_getElem? (i := 843) (by decide +kernel)⟩
def lw_privs_4 : List (MethodName × Nat) := [(⟨"RegisterHouseModel", "say", "(I)V"⟩, 28), (⟨"RegisterHouseModel", "doItem", "(II)I"⟩, 28)]
theorem lw_r4 : ∀ q ∈ lw_privs_4, lw_okq q := List.forall_mem_cons.mpr ⟨lw_p48, List.forall_mem_cons.mpr ⟨lw_p49, fun _ h => absurd h List.not_mem_nil⟩⟩
def lw_privs : List (MethodName × Nat) := lw_privs_1 ++ (lw_privs_2 ++ (lw_privs_3 ++ (lw_privs_4)))
def lw_tbl : List Cond := k2_sels lw_privs ++ tables_1
theorem lw_privs_ok : ∀ q ∈ lw_privs, lw_okq q := by
  show ∀ q ∈ lw_privs_1 ++ (lw_privs_2 ++ (lw_privs_3 ++ (lw_privs_4))), lw_okq q
  exact List.forall_mem_append.mpr ⟨lw_r1, List.forall_mem_append.mpr ⟨lw_r2, List.forall_mem_append.mpr ⟨lw_r3, lw_r4⟩⟩⟩
end
section
def RX0 : String := "RegisterHouse$Coder"
def TX0 : u_T := fun k => match k with
  | _ => ("RegisterHouse$Coder", "starts", "[I", true)
def tyX0 : Nat → FieldType := fun k => match k with
  | _ => .array .int
abbrev wsX00 : List Cond := u_ws RX0 TX0 1
theorem nmX0 : ∀ a, a < 1 → ∀ b, b < 1 → a ≠ b → (TX0 a).2.1 ≠ (TX0 b).2.1 := by decide +kernel
theorem tyX0_ok : ∀ k, k < 1 → parseFieldDescriptor (TX0 k).2.2.1 = some (tyX0 k) := by decide +kernel
abbrev cX0_init : ByteArray := prog_2_method_1_code
def yX0_init : MethodName := ⟨RX0, "<init>", "()V"⟩
abbrev cX0_translate : ByteArray := prog_2_method_2_code
def yX0_translate : MethodName := ⟨RX0, "translate", "(LRegisterHouse$Program;LRegisterHouse$Homes;LRegisterHouse$Listing;)V"⟩
abbrev cX0_isNeedless : ByteArray := prog_2_method_3_code
def yX0_isNeedless : MethodName := ⟨RX0, "isNeedless", "(LRegisterHouse$Program;LRegisterHouse$Homes;I)Z"⟩
abbrev cX0_translateStep : ByteArray := prog_2_method_4_code
def yX0_translateStep : MethodName := ⟨RX0, "translateStep", "(LRegisterHouse$Program;LRegisterHouse$Homes;LRegisterHouse$Listing;I)V"⟩
abbrev cX0_bring : ByteArray := prog_2_method_5_code
def yX0_bring : MethodName := ⟨RX0, "bring", "(LRegisterHouse$Program;LRegisterHouse$Homes;LRegisterHouse$Listing;II)I"⟩
abbrev cX0_firstHolds8 : ByteArray := prog_2_method_6_code
def yX0_firstHolds8 : MethodName := ⟨RX0, "firstHolds8", "(LRegisterHouse$Program;LRegisterHouse$Homes;II)Z"⟩
abbrev cX0_registerOf : ByteArray := prog_2_method_7_code
def yX0_registerOf : MethodName := ⟨RX0, "registerOf", "(LRegisterHouse$Program;LRegisterHouse$Homes;II)I"⟩
abbrev cX0_addMaker : ByteArray := prog_2_method_8_code
def yX0_addMaker : MethodName := ⟨RX0, "addMaker", "(LRegisterHouse$Listing;LRegisterHouse$Listing;IIII)V"⟩
abbrev cX0_addUser : ByteArray := prog_2_method_9_code
def yX0_addUser : MethodName := ⟨RX0, "addUser", "(LRegisterHouse$Listing;LRegisterHouse$Listing;III)V"⟩
def RX1 : String := "RegisterHouse$Flow"
def TX1 : u_T := fun k => match k with
  | 0 => ("RegisterHouse$Flow", "before", "[I", true)
  | _ => ("RegisterHouse$Flow", "ways", "[I", true)
def tyX1 : Nat → FieldType := fun k => match k with
  | 0 => .array .int
  | _ => .array .int
abbrev wsX10 : List Cond := u_ws RX1 TX1 2
theorem nmX1 : ∀ a, a < 2 → ∀ b, b < 2 → a ≠ b → (TX1 a).2.1 ≠ (TX1 b).2.1 := by decide +kernel
theorem tyX1_ok : ∀ k, k < 2 → parseFieldDescriptor (TX1 k).2.2.1 = some (tyX1 k) := by decide +kernel
abbrev cX1_init : ByteArray := prog_3_method_1_code
def yX1_init : MethodName := ⟨RX1, "<init>", "()V"⟩
abbrev cX1_spread : ByteArray := prog_3_method_2_code
def yX1_spread : MethodName := ⟨RX1, "spread", "(LRegisterHouse$Program;)V"⟩
abbrev cX1_liveBefore : ByteArray := prog_3_method_3_code
def yX1_liveBefore : MethodName := ⟨RX1, "liveBefore", "(LRegisterHouse$Program;I)I"⟩
abbrev cX1_behind : ByteArray := prog_3_method_4_code
def yX1_behind : MethodName := ⟨RX1, "behind", "(LRegisterHouse$Listing;I)I"⟩
abbrev cX1_beforeIfThere : ByteArray := prog_3_method_5_code
def yX1_beforeIfThere : MethodName := ⟨RX1, "beforeIfThere", "(LRegisterHouse$Listing;I)I"⟩
abbrev cX1_collide : ByteArray := prog_3_method_6_code
def yX1_collide : MethodName := ⟨RX1, "collide", "(LRegisterHouse$Program;)V"⟩
abbrev cX1_blockedIn : ByteArray := prog_3_method_7_code
def yX1_blockedIn : MethodName := ⟨RX1, "blockedIn", "(LRegisterHouse$Program;II)I"⟩
abbrev cX1_blockAll : ByteArray := prog_3_method_8_code
def yX1_blockAll : MethodName := ⟨RX1, "blockAll", "(II)V"⟩
def RX2 : String := "RegisterHouse$Homes"
def TX2 : u_T := fun k => match k with
  | 0 => ("RegisterHouse$Homes", "registers", "[I", true)
  | 1 => ("RegisterHouse$Homes", "weights", "[I", true)
  | 2 => ("RegisterHouse$Homes", "turns", "[I", true)
  | 3 => ("RegisterHouse$Homes", "joined", "[I", true)
  | _ => ("RegisterHouse$Homes", "places", "[I", true)
def tyX2 : Nat → FieldType := fun k => match k with
  | 0 => .array .int
  | 1 => .array .int
  | 2 => .array .int
  | 3 => .array .int
  | _ => .array .int
abbrev wsX20 : List Cond := u_ws RX2 TX2 5
theorem nmX2 : ∀ a, a < 5 → ∀ b, b < 5 → a ≠ b → (TX2 a).2.1 ≠ (TX2 b).2.1 := by decide +kernel
theorem tyX2_ok : ∀ k, k < 5 → parseFieldDescriptor (TX2 k).2.2.1 = some (tyX2 k) := by decide +kernel
abbrev cX2_init : ByteArray := prog_4_method_1_code
def yX2_init : MethodName := ⟨RX2, "<init>", "()V"⟩
abbrev cX2_settle : ByteArray := prog_4_method_2_code
def yX2_settle : MethodName := ⟨RX2, "settle", "(LRegisterHouse$Program;[I)V"⟩
abbrev cX2_forget : ByteArray := prog_4_method_3_code
def yX2_forget : MethodName := ⟨RX2, "forget", "(I)V"⟩
abbrev cX2_weigh : ByteArray := prog_4_method_4_code
def yX2_weigh : MethodName := ⟨RX2, "weigh", "(LRegisterHouse$Listing;I)V"⟩
abbrev cX2_join : ByteArray := prog_4_method_5_code
def yX2_join : MethodName := ⟨RX2, "join", "(LRegisterHouse$Program;I)V"⟩
abbrev cX2_line : ByteArray := prog_4_method_6_code
def yX2_line : MethodName := ⟨RX2, "line", "(I)V"⟩
abbrev cX2_placeFor : ByteArray := prog_4_method_7_code
def yX2_placeFor : MethodName := ⟨RX2, "placeFor", "(III)I"⟩
abbrev cX2_placesOf : ByteArray := prog_4_method_8_code
def yX2_placesOf : MethodName := ⟨RX2, "placesOf", "(II)I"⟩
abbrev cX2_inSlot : ByteArray := prog_4_method_9_code
def yX2_inSlot : MethodName := ⟨RX2, "inSlot", "(I)Z"⟩
abbrev cX2_slotsOf : ByteArray := prog_4_method_10_code
def yX2_slotsOf : MethodName := ⟨RX2, "slotsOf", "(ILRegisterHouse$Program;)I"⟩
abbrev cX2_clash : ByteArray := prog_4_method_11_code
def yX2_clash : MethodName := ⟨RX2, "clash", "(I[I)Z"⟩
def RX3 : String := "RegisterHouse$Listing"
def TX3 : u_T := fun k => match k with
  | 0 => ("RegisterHouse$Listing", "ops", "[I", true)
  | 1 => ("RegisterHouse$Listing", "xs", "[I", true)
  | 2 => ("RegisterHouse$Listing", "ys", "[I", true)
  | 3 => ("RegisterHouse$Listing", "zs", "[I", true)
  | _ => ("RegisterHouse$Listing", "size", "I", false)
def tyX3 : Nat → FieldType := fun k => match k with
  | 0 => .array .int
  | 1 => .array .int
  | 2 => .array .int
  | 3 => .array .int
  | _ => .int
abbrev wsX30 : List Cond := u_ws RX3 TX3 5
theorem nmX3 : ∀ a, a < 5 → ∀ b, b < 5 → a ≠ b → (TX3 a).2.1 ≠ (TX3 b).2.1 := by decide +kernel
theorem tyX3_ok : ∀ k, k < 5 → parseFieldDescriptor (TX3 k).2.2.1 = some (tyX3 k) := by decide +kernel
abbrev cX3_init : ByteArray := prog_5_method_1_code
def yX3_init : MethodName := ⟨RX3, "<init>", "(I)V"⟩
abbrev cX3_add : ByteArray := prog_5_method_2_code
def yX3_add : MethodName := ⟨RX3, "add", "(IIII)V"⟩
abbrev cX3_part : ByteArray := prog_5_method_3_code
def yX3_part : MethodName := ⟨RX3, "part", "(II)I"⟩
abbrev cX3_target : ByteArray := prog_5_method_4_code
def yX3_target : MethodName := ⟨RX3, "target", "(I)I"⟩
abbrev cX3_aim : ByteArray := prog_5_method_5_code
def yX3_aim : MethodName := ⟨RX3, "aim", "(II)V"⟩
abbrev cX3_goesOn : ByteArray := prog_5_method_6_code
def yX3_goesOn : MethodName := ⟨RX3, "goesOn", "(I)Z"⟩
abbrev cX3_copy : ByteArray := prog_5_method_7_code
def yX3_copy : MethodName := ⟨RX3, "copy", "(LRegisterHouse$Listing;)V"⟩
abbrev cX3_takeAway : ByteArray := prog_5_method_8_code
def yX3_takeAway : MethodName := ⟨RX3, "takeAway", "(I)V"⟩
def RX4 : String := "RegisterHouse$Machine"
def TX4 : u_T := fun k => match k with
  | 0 => ("RegisterHouse$Machine", "registers", "[I", true)
  | 1 => ("RegisterHouse$Machine", "slots", "[I", true)
  | 2 => ("RegisterHouse$Machine", "cells", "[I", true)
  | 3 => ("RegisterHouse$Machine", "speech", "[I", true)
  | 4 => ("RegisterHouse$Machine", "words", "I", false)
  | _ => ("RegisterHouse$Machine", "lines", "I", false)
def tyX4 : Nat → FieldType := fun k => match k with
  | 0 => .array .int
  | 1 => .array .int
  | 2 => .array .int
  | 3 => .array .int
  | 4 => .int
  | _ => .int
abbrev wsX40 : List Cond := u_ws RX4 TX4 6
theorem nmX4 : ∀ a, a < 6 → ∀ b, b < 6 → a ≠ b → (TX4 a).2.1 ≠ (TX4 b).2.1 := by decide +kernel
theorem tyX4_ok : ∀ k, k < 6 → parseFieldDescriptor (TX4 k).2.2.1 = some (tyX4 k) := by decide +kernel
abbrev cX4_init : ByteArray := prog_6_method_1_code
def yX4_init : MethodName := ⟨RX4, "<init>", "()V"⟩
abbrev cX4_endsWithin : ByteArray := prog_6_method_2_code
def yX4_endsWithin : MethodName := ⟨RX4, "endsWithin", "(ILRegisterHouse$Listing;[I)Z"⟩
abbrev cX4_begin : ByteArray := prog_6_method_3_code
def yX4_begin : MethodName := ⟨RX4, "begin", "([I)V"⟩
abbrev cX4_lineBehind : ByteArray := prog_6_method_4_code
def yX4_lineBehind : MethodName := ⟨RX4, "lineBehind", "(LRegisterHouse$Listing;I)I"⟩
abbrev cX4_act : ByteArray := prog_6_method_5_code
def yX4_act : MethodName := ⟨RX4, "act", "(IIII)V"⟩
abbrev cX4_cellAt : ByteArray := prog_6_method_6_code
def yX4_cellAt : MethodName := ⟨RX4, "cellAt", "(II)I"⟩
abbrev cX4_slotAt : ByteArray := prog_6_method_7_code
def yX4_slotAt : MethodName := ⟨RX4, "slotAt", "(II)I"⟩
abbrev cX4_speak : ByteArray := prog_6_method_8_code
def yX4_speak : MethodName := ⟨RX4, "speak", "(I)V"⟩
abbrev cX4_wordsKept : ByteArray := prog_6_method_9_code
def yX4_wordsKept : MethodName := ⟨RX4, "wordsKept", "()I"⟩
abbrev cX4_agreesWith : ByteArray := prog_6_method_10_code
def yX4_agreesWith : MethodName := ⟨RX4, "agreesWith", "(LRegisterHouse$Machine;)Z"⟩
def RX5 : String := "RegisterHouse$Program"
def TX5 : u_T := fun k => match k with
  | 0 => ("RegisterHouse$Program", "classes", "[I", true)
  | 1 => ("RegisterHouse$Program", "membersOf", "[I", true)
  | 2 => ("RegisterHouse$Program", "steps", "LRegisterHouse$Listing;", true)
  | 3 => ("RegisterHouse$Program", "anew", "[I", true)
  | 4 => ("RegisterHouse$Program", "first", "[I", true)
  | 5 => ("RegisterHouse$Program", "second", "[I", true)
  | _ => ("RegisterHouse$Program", "values", "I", false)
def tyX5 : Nat → FieldType := fun k => match k with
  | 0 => .array .int
  | 1 => .array .int
  | 2 => .object "RegisterHouse$Listing"
  | 3 => .array .int
  | 4 => .array .int
  | 5 => .array .int
  | _ => .int
abbrev wsX50 : List Cond := u_ws RX5 TX5 7
theorem nmX5 : ∀ a, a < 7 → ∀ b, b < 7 → a ≠ b → (TX5 a).2.1 ≠ (TX5 b).2.1 := by decide +kernel
theorem tyX5_ok : ∀ k, k < 7 → parseFieldDescriptor (TX5 k).2.2.1 = some (tyX5 k) := by decide +kernel
abbrev cX5_init : ByteArray := prog_7_method_1_code
def yX5_init : MethodName := ⟨RX5, "<init>", "()V"⟩
abbrev cX5_addValue : ByteArray := prog_7_method_2_code
def yX5_addValue : MethodName := ⟨RX5, "addValue", "(I)I"⟩
abbrev cX5_isValue : ByteArray := prog_7_method_3_code
def yX5_isValue : MethodName := ⟨RX5, "isValue", "(I)Z"⟩
abbrev cX5_allows : ByteArray := prog_7_method_4_code
def yX5_allows : MethodName := ⟨RX5, "allows", "(IIII)Z"⟩
abbrev cX5_namesValues : ByteArray := prog_7_method_5_code
def yX5_namesValues : MethodName := ⟨RX5, "namesValues", "(IIII)Z"⟩
abbrev cX5_mayComeNext : ByteArray := prog_7_method_6_code
def yX5_mayComeNext : MethodName := ⟨RX5, "mayComeNext", "(I)Z"⟩
abbrev cX5_addStep : ByteArray := prog_7_method_7_code
def yX5_addStep : MethodName := ⟨RX5, "addStep", "(IIII)I"⟩
abbrev cX5_takenOf : ByteArray := prog_7_method_8_code
def yX5_takenOf : MethodName := ⟨RX5, "takenOf", "(II)I"⟩
def RX6 : String := "RegisterHouse$Tidier"
def TX6 : u_T := fun k => match k with
  | _ => ("RegisterHouse$Tidier", "led", "[Z", true)
def tyX6 : Nat → FieldType := fun k => match k with
  | _ => .array .boolean
abbrev wsX60 : List Cond := u_ws RX6 TX6 1
theorem nmX6 : ∀ a, a < 1 → ∀ b, b < 1 → a ≠ b → (TX6 a).2.1 ≠ (TX6 b).2.1 := by decide +kernel
theorem tyX6_ok : ∀ k, k < 1 → parseFieldDescriptor (TX6 k).2.2.1 = some (tyX6 k) := by decide +kernel
abbrev cX6_init : ByteArray := prog_8_method_1_code
def yX6_init : MethodName := ⟨RX6, "<init>", "()V"⟩
abbrev cX6_tidy : ByteArray := prog_8_method_2_code
def yX6_tidy : MethodName := ⟨RX6, "tidy", "(LRegisterHouse$Listing;)V"⟩
abbrev cX6_firstNeedless : ByteArray := prog_8_method_3_code
def yX6_firstNeedless : MethodName := ⟨RX6, "firstNeedless", "(LRegisterHouse$Listing;)I"⟩
abbrev cX6_markLed : ByteArray := prog_8_method_4_code
def yX6_markLed : MethodName := ⟨RX6, "markLed", "(LRegisterHouse$Listing;)V"⟩
abbrev cX6_leadsToNext : ByteArray := prog_8_method_5_code
def yX6_leadsToNext : MethodName := ⟨RX6, "leadsToNext", "(LRegisterHouse$Listing;I)Z"⟩
abbrev cX6_isIdleBehind : ByteArray := prog_8_method_6_code
def yX6_isIdleBehind : MethodName := ⟨RX6, "isIdleBehind", "(LRegisterHouse$Listing;I)Z"⟩
abbrev cX6_fetchesWhatWasKept : ByteArray := prog_8_method_7_code
def yX6_fetchesWhatWasKept : MethodName := ⟨RX6, "fetchesWhatWasKept", "(LRegisterHouse$Listing;I)Z"⟩
def RX7 : String := "RegisterHouse"
def TX7 : u_T := fun k => match k with
  | 0 => ("RegisterHouse", "program", "LRegisterHouse$Program;", true)
  | 1 => ("RegisterHouse", "flow", "LRegisterHouse$Flow;", true)
  | 2 => ("RegisterHouse", "homes", "LRegisterHouse$Homes;", true)
  | 3 => ("RegisterHouse", "coder", "LRegisterHouse$Coder;", true)
  | 4 => ("RegisterHouse", "tidier", "LRegisterHouse$Tidier;", true)
  | 5 => ("RegisterHouse", "code", "LRegisterHouse$Listing;", true)
  | 6 => ("RegisterHouse", "tidied", "LRegisterHouse$Listing;", true)
  | 7 => ("RegisterHouse", "toldMemory", "[I", true)
  | 8 => ("RegisterHouse", "latest", "LRegisterHouse$Machine;", true)
  | 9 => ("RegisterHouse", "stepsTrial", "LRegisterHouse$Machine;", true)
  | 10 => ("RegisterHouse", "codeTrial", "LRegisterHouse$Machine;", true)
  | _ => ("RegisterHouse", "ready", "I", false)
def tyX7 : Nat → FieldType := fun k => match k with
  | 0 => .object "RegisterHouse$Program"
  | 1 => .object "RegisterHouse$Flow"
  | 2 => .object "RegisterHouse$Homes"
  | 3 => .object "RegisterHouse$Coder"
  | 4 => .object "RegisterHouse$Tidier"
  | 5 => .object "RegisterHouse$Listing"
  | 6 => .object "RegisterHouse$Listing"
  | 7 => .array .int
  | 8 => .object "RegisterHouse$Machine"
  | 9 => .object "RegisterHouse$Machine"
  | 10 => .object "RegisterHouse$Machine"
  | _ => .int
abbrev wsX70 : List Cond := u_ws RX7 TX7 12
theorem nmX7 : ∀ a, a < 12 → ∀ b, b < 12 → a ≠ b → (TX7 a).2.1 ≠ (TX7 b).2.1 := by decide +kernel
theorem tyX7_ok : ∀ k, k < 12 → parseFieldDescriptor (TX7 k).2.2.1 = some (tyX7 k) := by decide +kernel
abbrev cX7_init : ByteArray := prog_1_method_1_code
def yX7_init : MethodName := ⟨RX7, "<init>", "()V"⟩
abbrev cX7_value : ByteArray := prog_1_method_2_code
def yX7_value : MethodName := ⟨RX7, "value", "(I)I"⟩
abbrev cX7_put : ByteArray := prog_1_method_3_code
def yX7_put : MethodName := ⟨RX7, "put", "(IIII)I"⟩
abbrev cX7_clear : ByteArray := prog_1_method_4_code
def yX7_clear : MethodName := ⟨RX7, "clear", "()I"⟩
abbrev cX7_registers : ByteArray := prog_1_method_5_code
def yX7_registers : MethodName := ⟨RX7, "registers", "(II)I"⟩
abbrev cX7_memory : ByteArray := prog_1_method_6_code
def yX7_memory : MethodName := ⟨RX7, "memory", "(II)I"⟩
abbrev cX7_live : ByteArray := prog_1_method_7_code
def yX7_live : MethodName := ⟨RX7, "live", "(I)I"⟩
abbrev cX7_inWay : ByteArray := prog_1_method_8_code
def yX7_inWay : MethodName := ⟨RX7, "inWay", "(I)I"⟩
abbrev cX7_weight : ByteArray := prog_1_method_9_code
def yX7_weight : MethodName := ⟨RX7, "weight", "(I)I"⟩
abbrev cX7_home : ByteArray := prog_1_method_10_code
def yX7_home : MethodName := ⟨RX7, "home", "(I)I"⟩
abbrev cX7_order : ByteArray := prog_1_method_11_code
def yX7_order : MethodName := ⟨RX7, "order", "(I)I"⟩
abbrev cX7_count : ByteArray := prog_1_method_12_code
def yX7_count : MethodName := ⟨RX7, "count", "(I)I"⟩
abbrev cX7_item : ByteArray := prog_1_method_13_code
def yX7_item : MethodName := ⟨RX7, "item", "(III)I"⟩
abbrev cX7_run : ByteArray := prog_1_method_14_code
def yX7_run : MethodName := ⟨RX7, "run", "(II)I"⟩
abbrev cX7_made : ByteArray := prog_1_method_15_code
def yX7_made : MethodName := ⟨RX7, "made", "(I)I"⟩
abbrev cX7_said : ByteArray := prog_1_method_16_code
def yX7_said : MethodName := ⟨RX7, "said", "(I)I"⟩
abbrev cX7_cell : ByteArray := prog_1_method_17_code
def yX7_cell : MethodName := ⟨RX7, "cell", "(I)I"⟩
abbrev cX7_check : ByteArray := prog_1_method_18_code
def yX7_check : MethodName := ⟨RX7, "check", "()I"⟩
abbrev cX7_isClass : ByteArray := prog_1_method_19_code
def yX7_isClass : MethodName := ⟨RX7, "isClass", "(I)Z"⟩
abbrev cX7_isCell : ByteArray := prog_1_method_20_code
def yX7_isCell : MethodName := ⟨RX7, "isCell", "(I)Z"⟩
abbrev cX7_stageOf : ByteArray := prog_1_method_21_code
def yX7_stageOf : MethodName := ⟨RX7, "stageOf", "(I)I"⟩
abbrev cX7_listingOf : ByteArray := prog_1_method_22_code
def yX7_listingOf : MethodName := ⟨RX7, "listingOf", "(I)LRegisterHouse$Listing;"⟩
abbrev cX7_workOut : ByteArray := prog_1_method_23_code
def yX7_workOut : MethodName := ⟨RX7, "workOut", "(I)V"⟩
abbrev cX7_bit : ByteArray := prog_1_method_24_code
def yX7_bit : MethodName := ⟨RX7, "bit", "(I)I"⟩
abbrev cX7_bitIfThere : ByteArray := prog_1_method_25_code
def yX7_bitIfThere : MethodName := ⟨RX7, "bitIfThere", "(I)I"⟩
abbrev cX7_has : ByteArray := prog_1_method_26_code
def yX7_has : MethodName := ⟨RX7, "has", "(II)Z"⟩
abbrev cX7_leastOf : ByteArray := prog_1_method_27_code
def yX7_leastOf : MethodName := ⟨RX7, "leastOf", "(I)I"⟩
def RX8 : String := "RegisterHouseModel"
def TX8 : u_T := fun k => match k with
  | 0 => ("RegisterHouseModel", "values", "I", false)
  | 1 => ("RegisterHouseModel", "classes", "[I", true)
  | 2 => ("RegisterHouseModel", "steps", "I", false)
  | 3 => ("RegisterHouseModel", "ops", "[I", true)
  | 4 => ("RegisterHouseModel", "first", "[I", true)
  | 5 => ("RegisterHouseModel", "second", "[I", true)
  | 6 => ("RegisterHouseModel", "third", "[I", true)
  | 7 => ("RegisterHouseModel", "registers", "[I", true)
  | 8 => ("RegisterHouseModel", "memory", "[I", true)
  | 9 => ("RegisterHouseModel", "before", "[I", true)
  | 10 => ("RegisterHouseModel", "behind", "[I", true)
  | 11 => ("RegisterHouseModel", "way", "[I", true)
  | 12 => ("RegisterHouseModel", "weights", "[I", true)
  | 13 => ("RegisterHouseModel", "order", "[I", true)
  | 14 => ("RegisterHouseModel", "homes", "[I", true)
  | 15 => ("RegisterHouseModel", "code", "[I", true)
  | 16 => ("RegisterHouseModel", "items", "[I", true)
  | 17 => ("RegisterHouseModel", "firstItem", "[I", true)
  | 18 => ("RegisterHouseModel", "made", "I", false)
  | 19 => ("RegisterHouseModel", "told", "I", false)
  | 20 => ("RegisterHouseModel", "said", "[I", true)
  | 21 => ("RegisterHouseModel", "left", "[I", true)
  | 22 => ("RegisterHouseModel", "held", "[I", true)
  | 23 => ("RegisterHouseModel", "slots", "[I", true)
  | 24 => ("RegisterHouseModel", "now", "[I", true)
  | 25 => ("RegisterHouseModel", "fetched", "I", false)
  | 26 => ("RegisterHouseModel", "fetches", "[I", true)
  | _ => ("RegisterHouseModel", "into", "[I", true)
def tyX8 : Nat → FieldType := fun k => match k with
  | 0 => .int
  | 1 => .array .int
  | 2 => .int
  | 3 => .array .int
  | 4 => .array .int
  | 5 => .array .int
  | 6 => .array .int
  | 7 => .array .int
  | 8 => .array .int
  | 9 => .array .int
  | 10 => .array .int
  | 11 => .array .int
  | 12 => .array .int
  | 13 => .array .int
  | 14 => .array .int
  | 15 => .array .int
  | 16 => .array .int
  | 17 => .array .int
  | 18 => .int
  | 19 => .int
  | 20 => .array .int
  | 21 => .array .int
  | 22 => .array .int
  | 23 => .array .int
  | 24 => .array .int
  | 25 => .int
  | 26 => .array .int
  | _ => .array .int
abbrev wsX80 : List Cond := u_ws RX8 TX8 28
theorem nmX8 : ∀ a, a < 28 → ∀ b, b < 28 → a ≠ b → (TX8 a).2.1 ≠ (TX8 b).2.1 := by decide +kernel
theorem tyX8_ok : ∀ k, k < 28 → parseFieldDescriptor (TX8 k).2.2.1 = some (tyX8 k) := by decide +kernel
abbrev cX8_init : ByteArray := prog_10_method_1_code
def yX8_init : MethodName := ⟨RX8, "<init>", "()V"⟩
abbrev cX8_value : ByteArray := prog_10_method_2_code
def yX8_value : MethodName := ⟨RX8, "value", "(I)I"⟩
abbrev cX8_isValue : ByteArray := prog_10_method_3_code
def yX8_isValue : MethodName := ⟨RX8, "isValue", "(I)Z"⟩
abbrev cX8_isOf : ByteArray := prog_10_method_4_code
def yX8_isOf : MethodName := ⟨RX8, "isOf", "(II)Z"⟩
abbrev cX8_mayBe : ByteArray := prog_10_method_5_code
def yX8_mayBe : MethodName := ⟨RX8, "mayBe", "(IIII)Z"⟩
abbrev cX8_put : ByteArray := prog_10_method_6_code
def yX8_put : MethodName := ⟨RX8, "put", "(IIII)I"⟩
abbrev cX8_clear : ByteArray := prog_10_method_7_code
def yX8_clear : MethodName := ⟨RX8, "clear", "()I"⟩
abbrev cX8_registers : ByteArray := prog_10_method_8_code
def yX8_registers : MethodName := ⟨RX8, "registers", "(II)I"⟩
abbrev cX8_memory : ByteArray := prog_10_method_9_code
def yX8_memory : MethodName := ⟨RX8, "memory", "(II)I"⟩
abbrev cX8_taken : ByteArray := prog_10_method_10_code
def yX8_taken : MethodName := ⟨RX8, "taken", "(II)I"⟩
abbrev cX8_anew : ByteArray := prog_10_method_11_code
def yX8_anew : MethodName := ⟨RX8, "anew", "(I)I"⟩
abbrev cX8_taking : ByteArray := prog_10_method_12_code
def yX8_taking : MethodName := ⟨RX8, "taking", "(I)I"⟩
abbrev cX8_liveAt : ByteArray := prog_10_method_13_code
def yX8_liveAt : MethodName := ⟨RX8, "liveAt", "(I)I"⟩
abbrev cX8_flow : ByteArray := prog_10_method_14_code
def yX8_flow : MethodName := ⟨RX8, "flow", "()V"⟩
abbrev cX8_meet : ByteArray := prog_10_method_15_code
def yX8_meet : MethodName := ⟨RX8, "meet", "()V"⟩
abbrev cX8_isJoined : ByteArray := prog_10_method_16_code
def yX8_isJoined : MethodName := ⟨RX8, "isJoined", "(II)Z"⟩
abbrev cX8_isFree : ByteArray := prog_10_method_17_code
def yX8_isFree : MethodName := ⟨RX8, "isFree", "(II)Z"⟩
abbrev cX8_homeFor : ByteArray := prog_10_method_18_code
def yX8_homeFor : MethodName := ⟨RX8, "homeFor", "(I)I"⟩
abbrev cX8_settle : ByteArray := prog_10_method_19_code
def yX8_settle : MethodName := ⟨RX8, "settle", "()V"⟩
abbrev cX8_lay : ByteArray := prog_10_method_20_code
def yX8_lay : MethodName := ⟨RX8, "lay", "(IIII)V"⟩
abbrev cX8_register : ByteArray := prog_10_method_21_code
def yX8_register : MethodName := ⟨RX8, "register", "(II)I"⟩
abbrev cX8_fetch : ByteArray := prog_10_method_22_code
def yX8_fetch : MethodName := ⟨RX8, "fetch", "(I)V"⟩
abbrev cX8_from : ByteArray := prog_10_method_23_code
def yX8_from : MethodName := ⟨RX8, "from", "(I)I"⟩
abbrev cX8_to : ByteArray := prog_10_method_24_code
def yX8_to : MethodName := ⟨RX8, "to", "(I)I"⟩
abbrev cX8_makeStep : ByteArray := prog_10_method_25_code
def yX8_makeStep : MethodName := ⟨RX8, "makeStep", "(I)V"⟩
abbrev cX8_makeCode : ByteArray := prog_10_method_26_code
def yX8_makeCode : MethodName := ⟨RX8, "makeCode", "()V"⟩
abbrev cX8_leads : ByteArray := prog_10_method_27_code
def yX8_leads : MethodName := ⟨RX8, "leads", "(I)I"⟩
abbrev cX8_isLedTo : ByteArray := prog_10_method_28_code
def yX8_isLedTo : MethodName := ⟨RX8, "isLedTo", "(I)Z"⟩
abbrev cX8_needless : ByteArray := prog_10_method_29_code
def yX8_needless : MethodName := ⟨RX8, "needless", "()I"⟩
abbrev cX8_take : ByteArray := prog_10_method_30_code
def yX8_take : MethodName := ⟨RX8, "take", "(I)V"⟩
abbrev cX8_live : ByteArray := prog_10_method_31_code
def yX8_live : MethodName := ⟨RX8, "live", "(I)I"⟩
abbrev cX8_inWay : ByteArray := prog_10_method_32_code
def yX8_inWay : MethodName := ⟨RX8, "inWay", "(I)I"⟩
abbrev cX8_weight : ByteArray := prog_10_method_33_code
def yX8_weight : MethodName := ⟨RX8, "weight", "(I)I"⟩
abbrev cX8_home : ByteArray := prog_10_method_34_code
def yX8_home : MethodName := ⟨RX8, "home", "(I)I"⟩
abbrev cX8_order : ByteArray := prog_10_method_35_code
def yX8_order : MethodName := ⟨RX8, "order", "(I)I"⟩
abbrev cX8_slotsOf : ByteArray := prog_10_method_36_code
def yX8_slotsOf : MethodName := ⟨RX8, "slotsOf", "(I)I"⟩
abbrev cX8_count : ByteArray := prog_10_method_37_code
def yX8_count : MethodName := ⟨RX8, "count", "(I)I"⟩
abbrev cX8_item : ByteArray := prog_10_method_38_code
def yX8_item : MethodName := ⟨RX8, "item", "(III)I"⟩
abbrev cX8_begin : ByteArray := prog_10_method_39_code
def yX8_begin : MethodName := ⟨RX8, "begin", "()V"⟩
abbrev cX8_say : ByteArray := prog_10_method_40_code
def yX8_say : MethodName := ⟨RX8, "say", "(I)V"⟩
abbrev cX8_reckoned : ByteArray := prog_10_method_41_code
def yX8_reckoned : MethodName := ⟨RX8, "reckoned", "(III)I"⟩
abbrev cX8_doStep : ByteArray := prog_10_method_42_code
def yX8_doStep : MethodName := ⟨RX8, "doStep", "(I)I"⟩
abbrev cX8_doItem : ByteArray := prog_10_method_43_code
def yX8_doItem : MethodName := ⟨RX8, "doItem", "(II)I"⟩
abbrev cX8_run : ByteArray := prog_10_method_44_code
def yX8_run : MethodName := ⟨RX8, "run", "(II)I"⟩
abbrev cX8_made : ByteArray := prog_10_method_45_code
def yX8_made : MethodName := ⟨RX8, "made", "(I)I"⟩
abbrev cX8_said : ByteArray := prog_10_method_46_code
def yX8_said : MethodName := ⟨RX8, "said", "(I)I"⟩
abbrev cX8_cell : ByteArray := prog_10_method_47_code
def yX8_cell : MethodName := ⟨RX8, "cell", "(I)I"⟩
abbrev cX8_check : ByteArray := prog_10_method_48_code
def yX8_check : MethodName := ⟨RX8, "check", "()I"⟩
def RJ6 : String := "java/lang/Integer"
def TJ6 : u_T := fun k => match k with
  | _ => ("", "", "", false)
def tyJ6 : Nat → FieldType := fun k => match k with
  | _ => .int
abbrev wsJ60 : List Cond := u_ws RJ6 TJ6 0
theorem nmJ6 : ∀ a, a < 0 → ∀ b, b < 0 → a ≠ b → (TJ6 a).2.1 ≠ (TJ6 b).2.1 := by decide +kernel
theorem tyJ6_ok : ∀ k, k < 0 → parseFieldDescriptor (TJ6 k).2.2.1 = some (tyJ6 k) := by decide +kernel
abbrev cJ6_bitCount_0f7a4 : ByteArray := prog_11_method_49_code
def yJ6_bitCount_0f7a4 : MethodName := ⟨RJ6, "bitCount", "(I)I"⟩
def RJ9 : String := "java/lang/Math"
def TJ9 : u_T := fun k => match k with
  | _ => ("", "", "", false)
def tyJ9 : Nat → FieldType := fun k => match k with
  | _ => .int
abbrev wsJ90 : List Cond := u_ws RJ9 TJ9 0
theorem nmJ9 : ∀ a, a < 0 → ∀ b, b < 0 → a ≠ b → (TJ9 a).2.1 ≠ (TJ9 b).2.1 := by decide +kernel
theorem tyJ9_ok : ∀ k, k < 0 → parseFieldDescriptor (TJ9 k).2.2.1 = some (tyJ9 k) := by decide +kernel
abbrev cJ9_floorMod_7cf53 : ByteArray := prog_12_method_50_code
def yJ9_floorMod_7cf53 : MethodName := ⟨RJ9, "floorMod", "(II)I"⟩
abbrev cJ9_max_7cf53 : ByteArray := prog_12_method_65_code
def yJ9_max_7cf53 : MethodName := ⟨RJ9, "max", "(II)I"⟩
abbrev cJ9_min_7cf53 : ByteArray := prog_12_method_69_code
def yJ9_min_7cf53 : MethodName := ⟨RJ9, "min", "(II)I"⟩
def RL : String := "RegisterHouseLaw"
abbrev cL_law : ByteArray := code
def yL_law : MethodName := ⟨RL, "law", "([I)Z"⟩
abbrev vwCl : List vw_C := [(RX0, TX0, 1), (RX1, TX1, 2), (RX2, TX2, 5), (RX3, TX3, 5), (RX4, TX4, 6), (RX5, TX5, 7), (RX6, TX6, 1), (RX7, TX7, 12), (RX8, TX8, 28)]
abbrev am_cl : List vw_C := vwCl
/-- the words that every method of the layer may use -/
def am_tbl : List Cond := lw_tbl.filter goodWord
theorem am_good : am_tbl.all goodWord = true := List.all_eq_true.mpr fun w h => (List.mem_filter.mp h).2
theorem am_in (i : Nat) {w : Cond} (h : lw_tbl[i]? = some w) (g : goodWord w = true) : w ∈ am_tbl := List.mem_filter.mpr ⟨List.mem_of_getElem? h, g⟩
theorem am_sub (ws : List Cond) (ps : List Nat) (hp : ws = ps.filterMap (fun i => lw_tbl[i]?)) (hg : ws.all goodWord = true) : ∀ w ∈ ws, w ∈ am_tbl := by
  intro w hw
  have h1 := List.all_eq_true.mp hg w hw
  rw [hp] at hw
  obtain ⟨i, -, hi⟩ := List.mem_filterMap.mp hw
  exact am_in i hi h1
def am_stat : List (String × String × String × Nat) := [("RegisterHouse", "NAMED", "[I", 0), ("RegisterHouse", "TAKEN", "[I", 1)]
/-- the low rows: the static rows, then the script -/
def am_low : Nat := 3
theorem inAX0 : ∀ w ∈ wsX00, w ∈ am_tbl := am_sub _ [212] (by decide +kernel) (by decide +kernel)
theorem inAX1 : ∀ w ∈ wsX10, w ∈ am_tbl := am_sub _ [173, 175] (by decide +kernel) (by decide +kernel)
theorem inAX2 : ∀ w ∈ wsX20, w ∈ am_tbl := am_sub _ [194, 196, 198, 200, 202] (by decide +kernel) (by decide +kernel)
theorem inAX3 : ∀ w ∈ wsX30, w ∈ am_tbl := am_sub _ [111, 113, 115, 117, 119] (by decide +kernel) (by decide +kernel)
theorem inAX4 : ∀ w ∈ wsX40, w ∈ am_tbl := am_sub _ [244, 246, 248, 250, 252, 254] (by decide +kernel) (by decide +kernel)
theorem inAX5 : ∀ w ∈ wsX50, w ∈ am_tbl := am_sub _ [148, 150, 152, 154, 156, 158, 160] (by decide +kernel) (by decide +kernel)
theorem inAX6 : ∀ w ∈ wsX60, w ∈ am_tbl := am_sub _ [222] (by decide +kernel) (by decide +kernel)
theorem inAX7 : ∀ w ∈ wsX70, w ∈ am_tbl := am_sub _ [269, 271, 273, 275, 277, 279, 281, 283, 285, 287, 289, 291] (by decide +kernel) (by decide +kernel)
theorem inAX8 : ∀ w ∈ wsX80, w ∈ am_tbl := am_sub _ [668, 670, 672, 674, 676, 678, 680, 682, 684, 686, 688, 690, 692, 694, 696, 698, 700, 702, 704, 706, 708, 710, 712, 714, 716, 718, 720, 722] (by decide +kernel) (by decide +kernel)
end
section
/-! THE LAYER: a judgement V over a heap of numbered cells (cell k lies at address B + k), that hides the machine's context. -/
/-- where the law's cells begin, the heap at the law's start, the classes' numbers and slots, the array classes by kind (0 int, 1 boolean), the low rows (address, length, contents): script and static rows -/
abbrev am_G : Type := Nat × Heap × va_G × (Nat → ClassId) × (Nat → Nat × Nat × (Nat → Int32))
abbrev gB (G : am_G) : Nat := G.1
abbrev gH (G : am_G) : Heap := G.2.1
abbrev gD (G : am_G) : va_G := G.2.2.1
abbrev gT (G : am_G) : Nat → ClassId := G.2.2.2.1
abbrev gL (G : am_G) : Nat → Nat × Nat × (Nat → Int32) := G.2.2.2.2
def gA (G : am_G) : Nat → Prop := fun q => gB G ≤ q
/-- a value of the layer, as the machine has it -/
def cV (G : am_G) : Value → Value
  | .ref a => .ref (gB G + a)
  | .retAddr k => .ref (gL G k).1
  | v => v
def cE (G : am_G) : va_E → va_E
  | .inl (k, x) => .inl (gT G k, x)
  | .inr (ci, fs) => .inr (ci, fs.map (cV G))
def gTys (G : am_G) : List (ClassId × FieldType) := [(gT G 0, .int), (gT G 1, .boolean)]
/-- the heap holds the layer's cells, each at its number; below B it is what it was -/
def am_W (G : am_G) (h : List va_E) (H : Heap) : Prop := H.size = gB G + h.length ∧ (∀ q : Nat, q < gB G → H[q]? = (gH G)[q]?) ∧ ∀ (k : Nat) (x : va_E), h[k]? = some x → va_at (gD G) am_cl (gB G + k, cE G x) H
/-- what the tables say, and the low rows -/
def am_K (G : am_G) (U : State) : Prop := va_K (gD G) am_cl (gTys G) U ∧ (∀ k, k < am_low → va_T .int (gL G k).1 (gL G k).2.1 (fun j => .int ((gL G k).2.2 j)) (gA G) U (gH G)) ∧ (∀ z ∈ am_stat, va_Z z.1 z.2.1 z.2.2.1 (.ref (gL G z.2.2.2).1) (gA G) U (gH G))
theorem am_K.moved {G : am_G} {u U : State} (hvm : u.vm.Alike U.vm) (h : am_K G u) : am_K G U := ⟨h.1.moved hvm, fun k hk => (h.2.1 k hk).moved hvm, fun z hz => (h.2.2 z hz).moved hvm⟩
/-- a method: name, bytes, locals, what it returns -/
abbrev am_Y : Type := MethodName × ByteArray × Nat × Option FieldType
def am_Fix (G : am_G) (Y : am_Y) (p : Program) (s : State) (m : MethodId) (args : Array Value) (meth : Method) (c : Code) : Prop :=
  p.tables.exec = Jvm.exec ∧ c.code = Y.2.1 ∧ c.maxLocals = Y.2.2.1 ∧ meth.sig.returnType = Y.2.2.2 ∧ s.vm.findClass Y.1.cls = some m.cls ∧ meth.locks = false ∧ meth.name = Y.1.name ∧ (∀ w ∈ am_tbl, w.before args s = true) ∧ am_K G s ∧ (∀ q : Nat, q < gB G → s.heap[q]? = (gH G)[q]?) ∧ gB G ≤ s.heap.size
theorem am_Fix.exec {G : am_G} {Y : am_Y} {p s m args meth c} (h : am_Fix G Y p s m args meth c) : p.tables.exec = Jvm.exec := h.1
theorem am_Fix.bytes {G : am_G} {Y : am_Y} {p s m args meth c} (h : am_Fix G Y p s m args meth c) : c.code = Y.2.1 := h.2.1
theorem am_Fix.maxL {G : am_G} {Y : am_Y} {p s m args meth c} (h : am_Fix G Y p s m args meth c) : c.maxLocals = Y.2.2.1 := h.2.2.1
theorem am_Fix.returns {G : am_G} {Y : am_Y} {p s m args meth c} (h : am_Fix G Y p s m args meth c) : meth.sig.returnType = Y.2.2.2 := h.2.2.2.1
theorem am_Fix.own {G : am_G} {Y : am_Y} {p s m args meth c} (h : am_Fix G Y p s m args meth c) : s.vm.findClass Y.1.cls = some m.cls := h.2.2.2.2.1
theorem am_Fix.locks {G : am_G} {Y : am_Y} {p s m args meth c} (h : am_Fix G Y p s m args meth c) : meth.locks = false := h.2.2.2.2.2.1
theorem am_Fix.name {G : am_G} {Y : am_Y} {p s m args meth c} (h : am_Fix G Y p s m args meth c) : meth.name = Y.1.name := h.2.2.2.2.2.2.1
theorem am_Fix.hts {G : am_G} {Y : am_Y} {p s m args meth c} (h : am_Fix G Y p s m args meth c) : ∀ w ∈ am_tbl, w.before args s = true := h.2.2.2.2.2.2.2.1
theorem am_Fix.K {G : am_G} {Y : am_Y} {p s m args meth c} (h : am_Fix G Y p s m args meth c) : am_K G s := h.2.2.2.2.2.2.2.2.1
theorem am_Fix.low {G : am_G} {Y : am_Y} {p s m args meth c} (h : am_Fix G Y p s m args meth c) : ∀ q : Nat, q < gB G → s.heap[q]? = (gH G)[q]? := h.2.2.2.2.2.2.2.2.2.1
theorem am_Fix.big {G : am_G} {Y : am_Y} {p s m args meth c} (h : am_Fix G Y p s m args meth c) : gB G ≤ s.heap.size := h.2.2.2.2.2.2.2.2.2.2
abbrev cL (G : am_G) (ls : List (Nat × Value)) : List (Nat × Value) := ls.map (fun q => (q.1, cV G q.2))
/-- from here, with at most k more cells of n slots, the machine comes to Fin -/
def V (G : am_G) (Y : am_Y) (R : Room) (Fn : Array Value → State → List Frame → State → Prop) (k n pc : Nat) (ls : List (Nat × Value)) (st : List Value) (h : List va_E) : Prop :=
  ∀ (p : Program) (l : Launch) (e : Env) (s : State) (m : MethodId) (args : Array Value) (below : List Frame) (meth : Method) (c : Code) (H : Heap) (locs : List Loc) (cells slots : Nat) (lsr : Array Slot),
    am_Fix G Y p s m args meth c → am_W G h H → va_S (gA G) s.heap H locs → lv_has lsr Y.2.2.1 (cL G ls) → cells + k ≤ R.cells → slots + n ≤ R.slots →
    W p l e R s m args below meth c H locs cells slots (Fn args s below) (F0 m pc lsr (st.map (cV G)))
/-- a method's end -/
def am_Q (G : am_G) (Post : Option Value → List va_E → Prop) : Array Value → State → Outcome → State → Prop := fun _ st o t => ∃ (r : Option Value) (h : List va_E), o = .returned (r.map (cV G)) ∧ Post r h ∧ am_W G h t.heap ∧ am_K G t ∧ st.heap.size ≤ t.heap.size
def am_Fin (G : am_G) (mc ms : Nat) (Post : Option Value → List va_E → Prop) : Array Value → State → List Frame → State → Prop := fun args s below => MQ below (am_Q G Post) args s mc ms (gA G)
def am_R (d lo mc ms : Nat) : Room := { frames := d, cells := mc, slots := ms, locals := lo }
def am_ws (Y : am_Y) : List Cond := Cond.code Y.1 Y.2.1 Y.2.2.1 Y.2.2.2 :: am_tbl
/-- the contract of a method at these arguments and cells -/
def Ct (G : am_G) (Y : am_Y) (d lo mc ms : Nat) (as : List Value) (h : List va_E) (Post : Option Value → List va_E → Prop) : Prop :=
  ∀ l : Launch, Met l Y.1 (am_ws Y) (am_R d lo mc ms) (fun v U => v = (as.map (cV G)).toArray ∧ am_W G h U.heap ∧ am_K G U) (am_Q G Post) mc ms (gA G)
/-- the locals with which a method begins -/
def am_as : Nat → List Value → List (Nat × Value)
  | _, [] => []
  | i, v :: vs => (i, v) :: am_as (i + 1) vs
def am_ins (i : Nat) (v : Value) : List (Nat × Value) → List (Nat × Value)
  | [] => [(i, v)]
  | q :: t => if i < q.1 then (i, v) :: q :: t else q :: am_ins i v t
def am_st (i : Nat) (v : Value) (ls : List (Nat × Value)) : List (Nat × Value) := am_ins i v (ls.filter (fun q => !(q.1 == i) && !(q.1 + 1 == i && q.2.category == 2)))
theorem cV_cat (G : am_G) (v : Value) : (cV G v).category = v.category := by cases v <;> rfl
theorem am_ins_mem {i : Nat} {v : Value} : ∀ {ls : List (Nat × Value)} {q : Nat × Value}, q ∈ am_ins i v ls → q = (i, v) ∨ q ∈ ls
  | [], q, h => by simpa [am_ins] using h
  | a :: t, q, h => by
    unfold am_ins at h
    split at h
    · rcases List.mem_cons.mp h with h | h
      · exact Or.inl h
      · exact Or.inr h
    · rcases List.mem_cons.mp h with h | h
      · exact Or.inr (by rw [h]; exact List.mem_cons_self)
      · rcases am_ins_mem h with h | h
        · exact Or.inl h
        · exact Or.inr (List.mem_cons_of_mem _ h)
theorem am_store {G : am_G} {lsr : Array Slot} {nL i : Nat} {v : Value} {ls ls' : List (Nat × Value)} (h : lv_has lsr nL ((i, cV G v) :: (cL G ls).filter (fun q => !(q.1 == i) && !(q.1 + 1 == i && q.2.category == 2)))) (e : am_st i v ls = ls') : lv_has lsr nL (cL G ls') := by
  refine ⟨h.1, h.2.1, fun q hq => ?_⟩
  subst e
  obtain ⟨z, hz, rfl⟩ := List.mem_map.mp hq
  rcases am_ins_mem hz with hz | hz
  · subst hz
    exact h.2.2 (i, cV G v) List.mem_cons_self
  · obtain ⟨h1, h2⟩ := List.mem_filter.mp hz
    refine h.2.2 (z.1, cV G z.2) (List.mem_cons_of_mem _ (List.mem_filter.mpr ⟨List.mem_map.mpr ⟨z, h1, rfl⟩, ?_⟩))
    simpa [cV_cat] using h2
theorem am_has {G : am_G} {lsr : Array Slot} {nL : Nat} {ls : List (Nat × Value)} (h : lv_has lsr nL (cL G ls)) (j : Nat) {i : Nat} {v : Value} (hj : ls[j]? = some (i, v)) : lsr[i]? = some (.val (cV G v)) :=
  h.2.2 (i, cV G v) (List.mem_map.mpr ⟨(i, v), List.mem_of_getElem? hj, rfl⟩)
/-- the cells as the kit's world -/
def cW (G : am_G) (h : List va_E) : va_W := h.mapIdx (fun i x => (gB G + i, cE G x))
theorem cW_get {G : am_G} {h : List va_E} {k : Nat} {x : va_E} (e : h[k]? = some x) : (cW G h)[k]? = some (gB G + k, cE G x) := by simp [cW, e]
theorem am_W.P {G : am_G} {h : List va_E} {H : Heap} (w : am_W G h H) : va_P (gD G) am_cl (cW G h) H := by
  intro k q hq
  simp only [cW, List.getElem?_mapIdx] at hq
  cases e : h[k]? with
  | none => rw [e] at hq; cases hq
  | some x => rw [e] at hq; cases hq; exact w.2.2 k x e
theorem am_W.D {G : am_G} {h : List va_E} : va_D (gA G) (cW G h) := by
  refine ⟨fun i j x y hx hy hxy => ?_, fun k q hq => ?_⟩
  · simp only [cW, List.getElem?_mapIdx] at hx hy
    cases e : h[i]? with
    | none => rw [e] at hx; cases hx
    | some a =>
      cases e2 : h[j]? with
      | none => rw [e2] at hy; cases hy
      | some b =>
        rw [e] at hx; rw [e2] at hy
        cases hx; cases hy
        dsimp only at hxy
        omega
  · simp only [cW, List.getElem?_mapIdx] at hq
    cases e : h[k]? with
    | none => rw [e] at hq; cases hq
    | some a => rw [e] at hq; cases hq; exact Nat.le_add_right _ _
/-- a cell is written -/
theorem am_W.set {G : am_G} {h : List va_E} {H H1 : Heap} {k : Nat} {x0 x : va_E} (w : am_W G h H) (e : h[k]? = some x0) (he : va_at (gD G) am_cl (gB G + k, cE G x) H1) (hz : H1.size = H.size) (oq : ∀ q : Nat, q ≠ gB G + k → H1[q]? = H[q]?) : am_W G (h.set k x) H1 := by
  have hl : k < h.length := (List.getElem?_eq_some_iff.mp e).1
  refine ⟨by rw [hz, w.1, List.length_set], fun q hq => by rw [oq q (by omega)]; exact w.2.1 q hq, fun j y hj => ?_⟩
  by_cases hjk : j = k
  · subst hjk
    rw [List.getElem?_set_self hl] at hj
    cases hj
    exact he
  · rw [List.getElem?_set_ne (Ne.symm hjk)] at hj
    exact (w.2.2 j y hj).kept (oq _ (by omega))
/-- a cell is new -/
theorem am_W.push {G : am_G} {h : List va_E} {H H1 : Heap} {x : va_E} (w : am_W G h H) (he : va_at (gD G) am_cl (gB G + h.length, cE G x) H1) (hz : H1.size = H.size + 1) (oq : ∀ q : Nat, q < H.size → H1[q]? = H[q]?) : am_W G (h ++ [x]) H1 := by
  have h1 := w.1
  refine ⟨by rw [hz, w.1, List.length_append]; simp; omega, fun q hq => by rw [oq q (by omega)]; exact w.2.1 q hq, fun j y hj => ?_⟩
  by_cases hjk : j < h.length
  · rw [List.getElem?_append_left hjk] at hj
    exact (w.2.2 j y hj).kept (oq _ (by dsimp only; omega))
  · rw [List.getElem?_append_right (by omega)] at hj
    have hlt : j - h.length < 1 := (List.getElem?_eq_some_iff.mp hj).1
    have hj0 : j = h.length := by omega
    subst hj0
    rw [Nat.sub_self] at hj
    cases hj
    exact he
theorem am_S.put {G : am_G} {s0 H H1 : Heap} {locs : List Loc} {k j : Nat} (h : va_S (gA G) s0 H locs) (z : H1.size = H.size) (oq : ∀ q : Nat, q ≠ gB G + k → H1[q]? = H[q]?) : va_S (gA G) s0 H1 (locs ++ [⟨gB G + k, j⟩]) := h.put z oq (Nat.le_add_right _ _)
theorem V.iadd {G : am_G} {Y : am_Y} {R : Room} {Fn : Array Value → State → List Frame → State → Prop} {k n pc : Nat} {ls : List (Nat × Value)} {st : List Value} {h : List va_E} {x y : Int32} (hd : decode Y.2.1 pc = .ok (.iadd, 1)) (kk : V G Y R Fn k n (pc + 1) ls (.int (x + y) :: st) h) : V G Y R Fn k n pc ls (.int y :: .int x :: st) h := by
  intro p l e s m args below meth c H locs cells slots lsr X w S hl hc hn
  exact lv_iadd X.exec X.bytes hd (kk p l e s m args below meth c H locs cells slots lsr X w S hl hc hn)
theorem V.isub {G : am_G} {Y : am_Y} {R : Room} {Fn : Array Value → State → List Frame → State → Prop} {k n pc : Nat} {ls : List (Nat × Value)} {st : List Value} {h : List va_E} {x y : Int32} (hd : decode Y.2.1 pc = .ok (.isub, 1)) (kk : V G Y R Fn k n (pc + 1) ls (.int (x - y) :: st) h) : V G Y R Fn k n pc ls (.int y :: .int x :: st) h := by
  intro p l e s m args below meth c H locs cells slots lsr X w S hl hc hn
  exact lv_isub X.exec X.bytes hd (kk p l e s m args below meth c H locs cells slots lsr X w S hl hc hn)
theorem V.imul {G : am_G} {Y : am_Y} {R : Room} {Fn : Array Value → State → List Frame → State → Prop} {k n pc : Nat} {ls : List (Nat × Value)} {st : List Value} {h : List va_E} {x y : Int32} (hd : decode Y.2.1 pc = .ok (.imul, 1)) (kk : V G Y R Fn k n (pc + 1) ls (.int (x * y) :: st) h) : V G Y R Fn k n pc ls (.int y :: .int x :: st) h := by
  intro p l e s m args below meth c H locs cells slots lsr X w S hl hc hn
  exact lv_imul X.exec X.bytes hd (kk p l e s m args below meth c H locs cells slots lsr X w S hl hc hn)
theorem V.iand {G : am_G} {Y : am_Y} {R : Room} {Fn : Array Value → State → List Frame → State → Prop} {k n pc : Nat} {ls : List (Nat × Value)} {st : List Value} {h : List va_E} {x y : Int32} (hd : decode Y.2.1 pc = .ok (.iand, 1)) (kk : V G Y R Fn k n (pc + 1) ls (.int (x &&& y) :: st) h) : V G Y R Fn k n pc ls (.int y :: .int x :: st) h := by
  intro p l e s m args below meth c H locs cells slots lsr X w S hl hc hn
  exact lv_iand X.exec X.bytes hd (kk p l e s m args below meth c H locs cells slots lsr X w S hl hc hn)
theorem V.ior {G : am_G} {Y : am_Y} {R : Room} {Fn : Array Value → State → List Frame → State → Prop} {k n pc : Nat} {ls : List (Nat × Value)} {st : List Value} {h : List va_E} {x y : Int32} (hd : decode Y.2.1 pc = .ok (.ior, 1)) (kk : V G Y R Fn k n (pc + 1) ls (.int (x ||| y) :: st) h) : V G Y R Fn k n pc ls (.int y :: .int x :: st) h := by
  intro p l e s m args below meth c H locs cells slots lsr X w S hl hc hn
  exact lv_ior X.exec X.bytes hd (kk p l e s m args below meth c H locs cells slots lsr X w S hl hc hn)
theorem V.ixor {G : am_G} {Y : am_Y} {R : Room} {Fn : Array Value → State → List Frame → State → Prop} {k n pc : Nat} {ls : List (Nat × Value)} {st : List Value} {h : List va_E} {x y : Int32} (hd : decode Y.2.1 pc = .ok (.ixor, 1)) (kk : V G Y R Fn k n (pc + 1) ls (.int (x ^^^ y) :: st) h) : V G Y R Fn k n pc ls (.int y :: .int x :: st) h := by
  intro p l e s m args below meth c H locs cells slots lsr X w S hl hc hn
  exact lv_ixor X.exec X.bytes hd (kk p l e s m args below meth c H locs cells slots lsr X w S hl hc hn)
theorem V.ishl {G : am_G} {Y : am_Y} {R : Room} {Fn : Array Value → State → List Frame → State → Prop} {k n pc : Nat} {ls : List (Nat × Value)} {st : List Value} {h : List va_E} {x y : Int32} (hd : decode Y.2.1 pc = .ok (.ishl, 1)) (kk : V G Y R Fn k n (pc + 1) ls (.int (x <<< (y &&& 31)) :: st) h) : V G Y R Fn k n pc ls (.int y :: .int x :: st) h := by
  intro p l e s m args below meth c H locs cells slots lsr X w S hl hc hn
  exact lv_ishl X.exec X.bytes hd (kk p l e s m args below meth c H locs cells slots lsr X w S hl hc hn)
theorem V.ishr {G : am_G} {Y : am_Y} {R : Room} {Fn : Array Value → State → List Frame → State → Prop} {k n pc : Nat} {ls : List (Nat × Value)} {st : List Value} {h : List va_E} {x y : Int32} (hd : decode Y.2.1 pc = .ok (.ishr, 1)) (kk : V G Y R Fn k n (pc + 1) ls (.int (x >>> (y &&& 31)) :: st) h) : V G Y R Fn k n pc ls (.int y :: .int x :: st) h := by
  intro p l e s m args below meth c H locs cells slots lsr X w S hl hc hn
  exact lv_ishr X.exec X.bytes hd (kk p l e s m args below meth c H locs cells slots lsr X w S hl hc hn)
theorem V.iushr {G : am_G} {Y : am_Y} {R : Room} {Fn : Array Value → State → List Frame → State → Prop} {k n pc : Nat} {ls : List (Nat × Value)} {st : List Value} {h : List va_E} {x y v : Int32} (hd : decode Y.2.1 pc = .ok (.iushr, 1)) (hv : (x.toUInt32 >>> (y.toUInt32 &&& Int32.toUInt32 31)).toInt32 = v) (kk : V G Y R Fn k n (pc + 1) ls (.int v :: st) h) : V G Y R Fn k n pc ls (.int y :: .int x :: st) h := by
  intro p l e s m args below meth c H locs cells slots lsr X w S hl hc hn
  exact lv_iushr X.exec X.bytes hd hv (kk p l e s m args below meth c H locs cells slots lsr X w S hl hc hn)
theorem V.ineg {G : am_G} {Y : am_Y} {R : Room} {Fn : Array Value → State → List Frame → State → Prop} {k n pc : Nat} {ls : List (Nat × Value)} {st : List Value} {h : List va_E} {x : Int32} (hd : decode Y.2.1 pc = .ok (.ineg, 1)) (kk : V G Y R Fn k n (pc + 1) ls (.int (-x) :: st) h) : V G Y R Fn k n pc ls (.int x :: st) h := by
  intro p l e s m args below meth c H locs cells slots lsr X w S hl hc hn
  exact lv_ineg X.exec X.bytes hd (kk p l e s m args below meth c H locs cells slots lsr X w S hl hc hn)
theorem V.idiv {G : am_G} {Y : am_Y} {R : Room} {Fn : Array Value → State → List Frame → State → Prop} {k n pc : Nat} {ls : List (Nat × Value)} {st : List Value} {h : List va_E} {x y : Int32} (hne : ¬ y = 0) (hd : decode Y.2.1 pc = .ok (.idiv, 1)) (kk : V G Y R Fn k n (pc + 1) ls (.int (x / y) :: st) h) : V G Y R Fn k n pc ls (.int y :: .int x :: st) h := by
  intro p l e s m args below meth c H locs cells slots lsr X w S hl hc hn
  exact lv_idiv X.exec X.bytes hd hne (kk p l e s m args below meth c H locs cells slots lsr X w S hl hc hn)
theorem V.irem {G : am_G} {Y : am_Y} {R : Room} {Fn : Array Value → State → List Frame → State → Prop} {k n pc : Nat} {ls : List (Nat × Value)} {st : List Value} {h : List va_E} {x y : Int32} (hne : ¬ y = 0) (hd : decode Y.2.1 pc = .ok (.irem, 1)) (kk : V G Y R Fn k n (pc + 1) ls (.int (x - x / y * y) :: st) h) : V G Y R Fn k n pc ls (.int y :: .int x :: st) h := by
  intro p l e s m args below meth c H locs cells slots lsr X w S hl hc hn
  exact lv_irem X.exec X.bytes hd hne (kk p l e s m args below meth c H locs cells slots lsr X w S hl hc hn)
theorem V.iconst {G : am_G} {Y : am_Y} {R : Room} {Fn : Array Value → State → List Frame → State → Prop} {k n pc : Nat} {ls : List (Nat × Value)} {st : List Value} {h : List va_E} {z : Int} {v : Int32} (hv : Int32.ofInt z = v) (hd : decode Y.2.1 pc = .ok (.iconst z, 1)) (kk : V G Y R Fn k n (pc + 1) ls (.int v :: st) h) : V G Y R Fn k n pc ls st h := by
  intro p l e s m args below meth c H locs cells slots lsr X w S hl hc hn
  exact lv_iconst X.exec X.bytes hd hv (kk p l e s m args below meth c H locs cells slots lsr X w S hl hc hn)
theorem V.bipush {G : am_G} {Y : am_Y} {R : Room} {Fn : Array Value → State → List Frame → State → Prop} {k n pc : Nat} {ls : List (Nat × Value)} {st : List Value} {h : List va_E} {z : Int} {v : Int32} (hv : (Int8.ofInt z).toInt32 = v) (hd : decode Y.2.1 pc = .ok (.bipush z, 2)) (kk : V G Y R Fn k n (pc + 2) ls (.int v :: st) h) : V G Y R Fn k n pc ls st h := by
  intro p l e s m args below meth c H locs cells slots lsr X w S hl hc hn
  exact lv_bipush X.exec X.bytes hd hv (kk p l e s m args below meth c H locs cells slots lsr X w S hl hc hn)
theorem V.sipush {G : am_G} {Y : am_Y} {R : Room} {Fn : Array Value → State → List Frame → State → Prop} {k n pc : Nat} {ls : List (Nat × Value)} {st : List Value} {h : List va_E} {z : Int} {v : Int32} (hv : (Int16.ofInt z).toInt32 = v) (hd : decode Y.2.1 pc = .ok (.sipush z, 3)) (kk : V G Y R Fn k n (pc + 3) ls (.int v :: st) h) : V G Y R Fn k n pc ls st h := by
  intro p l e s m args below meth c H locs cells slots lsr X w S hl hc hn
  exact lv_sipush X.exec X.bytes hd hv (kk p l e s m args below meth c H locs cells slots lsr X w S hl hc hn)
theorem V.iload_n {G : am_G} {Y : am_Y} {R : Room} {Fn : Array Value → State → List Frame → State → Prop} {k n pc : Nat} {ls : List (Nat × Value)} {st : List Value} {h : List va_E} {i : Fin 4} {j : Nat} {x : Int32} (hj : ls[j]? = some (i.val, .int x)) (hd : decode Y.2.1 pc = .ok (.iload_n i, 1)) (kk : V G Y R Fn k n (pc + 1) ls (.int x :: st) h) : V G Y R Fn k n pc ls st h := by
  intro p l e s m args below meth c H locs cells slots lsr X w S hl hc hn
  exact lv_iload_n X.exec X.bytes hd rfl (am_has hl j hj) (kk p l e s m args below meth c H locs cells slots lsr X w S hl hc hn)
theorem V.iload {G : am_G} {Y : am_Y} {R : Room} {Fn : Array Value → State → List Frame → State → Prop} {k n pc : Nat} {ls : List (Nat × Value)} {st : List Value} {h : List va_E} {i : Nat} {j : Nat} {x : Int32} (hj : ls[j]? = some (i, .int x)) (hd : decode Y.2.1 pc = .ok (.iload i, 2)) (kk : V G Y R Fn k n (pc + 2) ls (.int x :: st) h) : V G Y R Fn k n pc ls st h := by
  intro p l e s m args below meth c H locs cells slots lsr X w S hl hc hn
  exact lv_iload X.exec X.bytes hd (am_has hl j hj) (kk p l e s m args below meth c H locs cells slots lsr X w S hl hc hn)
theorem V.aload_n {G : am_G} {Y : am_Y} {R : Room} {Fn : Array Value → State → List Frame → State → Prop} {k n pc : Nat} {ls : List (Nat × Value)} {st : List Value} {h : List va_E} {i : Fin 4} {j : Nat} {x : Nat} (hj : ls[j]? = some (i.val, .ref x)) (hd : decode Y.2.1 pc = .ok (.aload_n i, 1)) (kk : V G Y R Fn k n (pc + 1) ls (.ref x :: st) h) : V G Y R Fn k n pc ls st h := by
  intro p l e s m args below meth c H locs cells slots lsr X w S hl hc hn
  exact lv_aload_n X.exec X.bytes hd rfl (am_has hl j hj) (kk p l e s m args below meth c H locs cells slots lsr X w S hl hc hn)
theorem V.aload {G : am_G} {Y : am_Y} {R : Room} {Fn : Array Value → State → List Frame → State → Prop} {k n pc : Nat} {ls : List (Nat × Value)} {st : List Value} {h : List va_E} {i : Nat} {j : Nat} {x : Nat} (hj : ls[j]? = some (i, .ref x)) (hd : decode Y.2.1 pc = .ok (.aload i, 2)) (kk : V G Y R Fn k n (pc + 2) ls (.ref x :: st) h) : V G Y R Fn k n pc ls st h := by
  intro p l e s m args below meth c H locs cells slots lsr X w S hl hc hn
  exact lv_aload X.exec X.bytes hd (am_has hl j hj) (kk p l e s m args below meth c H locs cells slots lsr X w S hl hc hn)
theorem V.aload_nL {G : am_G} {Y : am_Y} {R : Room} {Fn : Array Value → State → List Frame → State → Prop} {k n pc : Nat} {ls : List (Nat × Value)} {st : List Value} {h : List va_E} {i : Fin 4} {j : Nat} {x : Nat} (hj : ls[j]? = some (i.val, .retAddr x)) (hd : decode Y.2.1 pc = .ok (.aload_n i, 1)) (kk : V G Y R Fn k n (pc + 1) ls (.retAddr x :: st) h) : V G Y R Fn k n pc ls st h := by
  intro p l e s m args below meth c H locs cells slots lsr X w S hl hc hn
  exact lv_aload_n X.exec X.bytes hd rfl (am_has hl j hj) (kk p l e s m args below meth c H locs cells slots lsr X w S hl hc hn)
theorem V.aloadL {G : am_G} {Y : am_Y} {R : Room} {Fn : Array Value → State → List Frame → State → Prop} {k n pc : Nat} {ls : List (Nat × Value)} {st : List Value} {h : List va_E} {i : Nat} {j : Nat} {x : Nat} (hj : ls[j]? = some (i, .retAddr x)) (hd : decode Y.2.1 pc = .ok (.aload i, 2)) (kk : V G Y R Fn k n (pc + 2) ls (.retAddr x :: st) h) : V G Y R Fn k n pc ls st h := by
  intro p l e s m args below meth c H locs cells slots lsr X w S hl hc hn
  exact lv_aload X.exec X.bytes hd (am_has hl j hj) (kk p l e s m args below meth c H locs cells slots lsr X w S hl hc hn)
theorem V.dup {G : am_G} {Y : am_Y} {R : Room} {Fn : Array Value → State → List Frame → State → Prop} {k n pc : Nat} {ls : List (Nat × Value)} {st : List Value} {h : List va_E} {v : Value} (hv : v.category = 1) (hd : decode Y.2.1 pc = .ok (.dup, 1)) (kk : V G Y R Fn k n (pc + 1) ls (v :: v :: st) h) : V G Y R Fn k n pc ls (v :: st) h := by
  intro p l e s m args below meth c H locs cells slots lsr X w S hl hc hn
  exact lv_dup X.exec X.bytes hd ((cV_cat G v).trans hv) (kk p l e s m args below meth c H locs cells slots lsr X w S hl hc hn)
theorem V.pop {G : am_G} {Y : am_Y} {R : Room} {Fn : Array Value → State → List Frame → State → Prop} {k n pc : Nat} {ls : List (Nat × Value)} {st : List Value} {h : List va_E} {v : Value} (hv : v.category = 1) (hd : decode Y.2.1 pc = .ok (.pop, 1)) (kk : V G Y R Fn k n (pc + 1) ls st h) : V G Y R Fn k n pc ls (v :: st) h := by
  intro p l e s m args below meth c H locs cells slots lsr X w S hl hc hn
  exact lv_pop X.exec X.bytes hd ((cV_cat G v).trans hv) (kk p l e s m args below meth c H locs cells slots lsr X w S hl hc hn)
theorem V.dup_x1 {G : am_G} {Y : am_Y} {R : Room} {Fn : Array Value → State → List Frame → State → Prop} {k n pc : Nat} {ls : List (Nat × Value)} {st : List Value} {h : List va_E} {v u : Value} (hv : v.category = 1) (hu : u.category = 1) (hd : decode Y.2.1 pc = .ok (.dup_x1, 1)) (kk : V G Y R Fn k n (pc + 1) ls (v :: u :: v :: st) h) : V G Y R Fn k n pc ls (v :: u :: st) h := by
  intro p l e s m args below meth c H locs cells slots lsr X w S hl hc hn
  exact lv_dup_x1 X.exec X.bytes hd ((cV_cat G v).trans hv) ((cV_cat G u).trans hu) (kk p l e s m args below meth c H locs cells slots lsr X w S hl hc hn)
theorem V.dup_x2 {G : am_G} {Y : am_Y} {R : Room} {Fn : Array Value → State → List Frame → State → Prop} {k n pc : Nat} {ls : List (Nat × Value)} {st : List Value} {h : List va_E} {v u t : Value} (hv : v.category = 1) (hu : u.category = 1) (ht : t.category = 1) (hd : decode Y.2.1 pc = .ok (.dup_x2, 1)) (kk : V G Y R Fn k n (pc + 1) ls (v :: u :: t :: v :: st) h) : V G Y R Fn k n pc ls (v :: u :: t :: st) h := by
  intro p l e s m args below meth c H locs cells slots lsr X w S hl hc hn
  exact lv_dup_x2 X.exec X.bytes hd ((cV_cat G v).trans hv) ((cV_cat G u).trans hu) ((cV_cat G t).trans ht) (kk p l e s m args below meth c H locs cells slots lsr X w S hl hc hn)
theorem V.dup2 {G : am_G} {Y : am_Y} {R : Room} {Fn : Array Value → State → List Frame → State → Prop} {k n pc : Nat} {ls : List (Nat × Value)} {st : List Value} {h : List va_E} {v u : Value} (hv : v.category = 1) (hu : u.category = 1) (hd : decode Y.2.1 pc = .ok (.dup2, 1)) (kk : V G Y R Fn k n (pc + 1) ls (v :: u :: v :: u :: st) h) : V G Y R Fn k n pc ls (v :: u :: st) h := by
  intro p l e s m args below meth c H locs cells slots lsr X w S hl hc hn
  exact lv_dup2_11 X.exec X.bytes hd ((cV_cat G v).trans hv) ((cV_cat G u).trans hu) (kk p l e s m args below meth c H locs cells slots lsr X w S hl hc hn)
theorem V.istore_n {G : am_G} {Y : am_Y} {R : Room} {Fn : Array Value → State → List Frame → State → Prop} {k n pc : Nat} {ls : List (Nat × Value)} {st : List Value} {h : List va_E} {i : Fin 4} {x : Int32} {ls' : List (Nat × Value)} (hd : decode Y.2.1 pc = .ok (.istore_n i, 1)) (hi : i.val < Y.2.2.1) (hls : am_st i.val (.int x) ls = ls') (kk : V G Y R Fn k n (pc + 1) ls' st h) : V G Y R Fn k n pc ls (.int x :: st) h := by
  intro p l e s m args below meth c H locs cells slots lsr X w S hl hc hn
  exact lv_istore_n X.exec X.bytes hd rfl hl hi rfl (fun lsr' hl' => kk p l e s m args below meth c H locs cells slots lsr' X w S (am_store (v := .int x) hl' hls) hc hn)
theorem V.istore {G : am_G} {Y : am_Y} {R : Room} {Fn : Array Value → State → List Frame → State → Prop} {k n pc : Nat} {ls : List (Nat × Value)} {st : List Value} {h : List va_E} {i : Nat} {x : Int32} {ls' : List (Nat × Value)} (hd : decode Y.2.1 pc = .ok (.istore i, 2)) (hi : i < Y.2.2.1) (hls : am_st i (.int x) ls = ls') (kk : V G Y R Fn k n (pc + 2) ls' st h) : V G Y R Fn k n pc ls (.int x :: st) h := by
  intro p l e s m args below meth c H locs cells slots lsr X w S hl hc hn
  exact lv_istore X.exec X.bytes hd hl hi rfl (fun lsr' hl' => kk p l e s m args below meth c H locs cells slots lsr' X w S (am_store (v := .int x) hl' hls) hc hn)
theorem V.astore_n {G : am_G} {Y : am_Y} {R : Room} {Fn : Array Value → State → List Frame → State → Prop} {k n pc : Nat} {ls : List (Nat × Value)} {st : List Value} {h : List va_E} {i : Fin 4} {x : Nat} {ls' : List (Nat × Value)} (hd : decode Y.2.1 pc = .ok (.astore_n i, 1)) (hi : i.val < Y.2.2.1) (hls : am_st i.val (.ref x) ls = ls') (kk : V G Y R Fn k n (pc + 1) ls' st h) : V G Y R Fn k n pc ls (.ref x :: st) h := by
  intro p l e s m args below meth c H locs cells slots lsr X w S hl hc hn
  exact lv_astore_n X.exec X.bytes hd rfl hl hi rfl (fun lsr' hl' => kk p l e s m args below meth c H locs cells slots lsr' X w S (am_store (v := .ref x) hl' hls) hc hn)
theorem V.astore {G : am_G} {Y : am_Y} {R : Room} {Fn : Array Value → State → List Frame → State → Prop} {k n pc : Nat} {ls : List (Nat × Value)} {st : List Value} {h : List va_E} {i : Nat} {x : Nat} {ls' : List (Nat × Value)} (hd : decode Y.2.1 pc = .ok (.astore i, 2)) (hi : i < Y.2.2.1) (hls : am_st i (.ref x) ls = ls') (kk : V G Y R Fn k n (pc + 2) ls' st h) : V G Y R Fn k n pc ls (.ref x :: st) h := by
  intro p l e s m args below meth c H locs cells slots lsr X w S hl hc hn
  exact lv_astore X.exec X.bytes hd hl hi rfl (fun lsr' hl' => kk p l e s m args below meth c H locs cells slots lsr' X w S (am_store (v := .ref x) hl' hls) hc hn)
theorem V.astore_nL {G : am_G} {Y : am_Y} {R : Room} {Fn : Array Value → State → List Frame → State → Prop} {k n pc : Nat} {ls : List (Nat × Value)} {st : List Value} {h : List va_E} {i : Fin 4} {x : Nat} {ls' : List (Nat × Value)} (hd : decode Y.2.1 pc = .ok (.astore_n i, 1)) (hi : i.val < Y.2.2.1) (hls : am_st i.val (.retAddr x) ls = ls') (kk : V G Y R Fn k n (pc + 1) ls' st h) : V G Y R Fn k n pc ls (.retAddr x :: st) h := by
  intro p l e s m args below meth c H locs cells slots lsr X w S hl hc hn
  exact lv_astore_n X.exec X.bytes hd rfl hl hi rfl (fun lsr' hl' => kk p l e s m args below meth c H locs cells slots lsr' X w S (am_store (v := .retAddr x) hl' hls) hc hn)
theorem V.astoreL {G : am_G} {Y : am_Y} {R : Room} {Fn : Array Value → State → List Frame → State → Prop} {k n pc : Nat} {ls : List (Nat × Value)} {st : List Value} {h : List va_E} {i : Nat} {x : Nat} {ls' : List (Nat × Value)} (hd : decode Y.2.1 pc = .ok (.astore i, 2)) (hi : i < Y.2.2.1) (hls : am_st i (.retAddr x) ls = ls') (kk : V G Y R Fn k n (pc + 2) ls' st h) : V G Y R Fn k n pc ls (.retAddr x :: st) h := by
  intro p l e s m args below meth c H locs cells slots lsr X w S hl hc hn
  exact lv_astore X.exec X.bytes hd hl hi rfl (fun lsr' hl' => kk p l e s m args below meth c H locs cells slots lsr' X w S (am_store (v := .retAddr x) hl' hls) hc hn)
theorem V.iinc {G : am_G} {Y : am_Y} {R : Room} {Fn : Array Value → State → List Frame → State → Prop} {k n pc : Nat} {ls : List (Nat × Value)} {st : List Value} {h : List va_E} {i j : Nat} {z : Int} {x v : Int32} {ls' : List (Nat × Value)} (hd : decode Y.2.1 pc = .ok (.iinc i z, 3)) (hj : ls[j]? = some (i, .int x)) (hv : x + Int32.ofInt z = v) (hi : i < Y.2.2.1) (hls : am_st i (.int v) ls = ls') (kk : V G Y R Fn k n (pc + 3) ls' st h) : V G Y R Fn k n pc ls st h := by
  intro p l e s m args below meth c H locs cells slots lsr X w S hl hc hn
  exact lv_iinc (k := j) X.exec X.bytes hd hl (by simp [hj]; rfl) hv hi rfl (fun lsr' hl' => kk p l e s m args below meth c H locs cells slots lsr' X w S (am_store (v := .int v) hl' hls) hc hn)
theorem V.goto {G : am_G} {Y : am_Y} {R : Room} {Fn : Array Value → State → List Frame → State → Prop} {k n pc : Nat} {ls : List (Nat × Value)} {st : List Value} {h : List va_E} {off : Int} {tgt : Nat} (hd : decode Y.2.1 pc = .ok (.goto off, 3)) (ht : (pc : Int) + off = (tgt : Int)) (kk : V G Y R Fn k n tgt ls st h) : V G Y R Fn k n pc ls st h := by
  intro p l e s m args below meth c H locs cells slots lsr X w S hl hc hn
  exact lv_goto X.exec X.bytes hd ht (kk p l e s m args below meth c H locs cells slots lsr X w S hl hc hn)
theorem V.if_eq {G : am_G} {Y : am_Y} {R : Room} {Fn : Array Value → State → List Frame → State → Prop} {k n pc : Nat} {ls : List (Nat × Value)} {st : List Value} {h : List va_E} {x : Int32} {off : Int} {tgt : Nat} (hd : decode Y.2.1 pc = .ok (.ifCond .eq off, 3)) (ht : (pc : Int) + off = (tgt : Int)) (kt : x = 0 → V G Y R Fn k n tgt ls st h) (kf : ¬ x = 0 → V G Y R Fn k n (pc + 3) ls st h) : V G Y R Fn k n pc ls (.int x :: st) h := by
  intro p l e s m args below meth c H locs cells slots lsr X w S hl hc hn
  exact lv_if_eq X.exec X.bytes hd ht (fun z => kt z p l e s m args below meth c H locs cells slots lsr X w S hl hc hn) (fun z => kf z p l e s m args below meth c H locs cells slots lsr X w S hl hc hn)
theorem V.icmp_eq {G : am_G} {Y : am_Y} {R : Room} {Fn : Array Value → State → List Frame → State → Prop} {k n pc : Nat} {ls : List (Nat × Value)} {st : List Value} {h : List va_E} {x y : Int32} {off : Int} {tgt : Nat} (hd : decode Y.2.1 pc = .ok (.if_icmp .eq off, 3)) (ht : (pc : Int) + off = (tgt : Int)) (kt : x = y → V G Y R Fn k n tgt ls st h) (kf : ¬ x = y → V G Y R Fn k n (pc + 3) ls st h) : V G Y R Fn k n pc ls (.int y :: .int x :: st) h := by
  intro p l e s m args below meth c H locs cells slots lsr X w S hl hc hn
  exact lv_icmp_eq X.exec X.bytes hd ht (fun z => kt z p l e s m args below meth c H locs cells slots lsr X w S hl hc hn) (fun z => kf z p l e s m args below meth c H locs cells slots lsr X w S hl hc hn)
theorem V.if_ne {G : am_G} {Y : am_Y} {R : Room} {Fn : Array Value → State → List Frame → State → Prop} {k n pc : Nat} {ls : List (Nat × Value)} {st : List Value} {h : List va_E} {x : Int32} {off : Int} {tgt : Nat} (hd : decode Y.2.1 pc = .ok (.ifCond .ne off, 3)) (ht : (pc : Int) + off = (tgt : Int)) (kt : ¬ x = 0 → V G Y R Fn k n tgt ls st h) (kf : x = 0 → V G Y R Fn k n (pc + 3) ls st h) : V G Y R Fn k n pc ls (.int x :: st) h := by
  intro p l e s m args below meth c H locs cells slots lsr X w S hl hc hn
  exact lv_if_ne X.exec X.bytes hd ht (fun z => kt z p l e s m args below meth c H locs cells slots lsr X w S hl hc hn) (fun z => kf z p l e s m args below meth c H locs cells slots lsr X w S hl hc hn)
theorem V.icmp_ne {G : am_G} {Y : am_Y} {R : Room} {Fn : Array Value → State → List Frame → State → Prop} {k n pc : Nat} {ls : List (Nat × Value)} {st : List Value} {h : List va_E} {x y : Int32} {off : Int} {tgt : Nat} (hd : decode Y.2.1 pc = .ok (.if_icmp .ne off, 3)) (ht : (pc : Int) + off = (tgt : Int)) (kt : ¬ x = y → V G Y R Fn k n tgt ls st h) (kf : x = y → V G Y R Fn k n (pc + 3) ls st h) : V G Y R Fn k n pc ls (.int y :: .int x :: st) h := by
  intro p l e s m args below meth c H locs cells slots lsr X w S hl hc hn
  exact lv_icmp_ne X.exec X.bytes hd ht (fun z => kt z p l e s m args below meth c H locs cells slots lsr X w S hl hc hn) (fun z => kf z p l e s m args below meth c H locs cells slots lsr X w S hl hc hn)
theorem V.if_lt {G : am_G} {Y : am_Y} {R : Room} {Fn : Array Value → State → List Frame → State → Prop} {k n pc : Nat} {ls : List (Nat × Value)} {st : List Value} {h : List va_E} {x : Int32} {off : Int} {tgt : Nat} (hd : decode Y.2.1 pc = .ok (.ifCond .lt off, 3)) (ht : (pc : Int) + off = (tgt : Int)) (kt : x < 0 → V G Y R Fn k n tgt ls st h) (kf : ¬ x < 0 → V G Y R Fn k n (pc + 3) ls st h) : V G Y R Fn k n pc ls (.int x :: st) h := by
  intro p l e s m args below meth c H locs cells slots lsr X w S hl hc hn
  exact lv_if_lt X.exec X.bytes hd ht (fun z => kt z p l e s m args below meth c H locs cells slots lsr X w S hl hc hn) (fun z => kf z p l e s m args below meth c H locs cells slots lsr X w S hl hc hn)
theorem V.icmp_lt {G : am_G} {Y : am_Y} {R : Room} {Fn : Array Value → State → List Frame → State → Prop} {k n pc : Nat} {ls : List (Nat × Value)} {st : List Value} {h : List va_E} {x y : Int32} {off : Int} {tgt : Nat} (hd : decode Y.2.1 pc = .ok (.if_icmp .lt off, 3)) (ht : (pc : Int) + off = (tgt : Int)) (kt : x < y → V G Y R Fn k n tgt ls st h) (kf : ¬ x < y → V G Y R Fn k n (pc + 3) ls st h) : V G Y R Fn k n pc ls (.int y :: .int x :: st) h := by
  intro p l e s m args below meth c H locs cells slots lsr X w S hl hc hn
  exact lv_icmp_lt X.exec X.bytes hd ht (fun z => kt z p l e s m args below meth c H locs cells slots lsr X w S hl hc hn) (fun z => kf z p l e s m args below meth c H locs cells slots lsr X w S hl hc hn)
theorem V.if_ge {G : am_G} {Y : am_Y} {R : Room} {Fn : Array Value → State → List Frame → State → Prop} {k n pc : Nat} {ls : List (Nat × Value)} {st : List Value} {h : List va_E} {x : Int32} {off : Int} {tgt : Nat} (hd : decode Y.2.1 pc = .ok (.ifCond .ge off, 3)) (ht : (pc : Int) + off = (tgt : Int)) (kt : 0 ≤ x → V G Y R Fn k n tgt ls st h) (kf : ¬ 0 ≤ x → V G Y R Fn k n (pc + 3) ls st h) : V G Y R Fn k n pc ls (.int x :: st) h := by
  intro p l e s m args below meth c H locs cells slots lsr X w S hl hc hn
  exact lv_if_ge X.exec X.bytes hd ht (fun z => kt z p l e s m args below meth c H locs cells slots lsr X w S hl hc hn) (fun z => kf z p l e s m args below meth c H locs cells slots lsr X w S hl hc hn)
theorem V.icmp_ge {G : am_G} {Y : am_Y} {R : Room} {Fn : Array Value → State → List Frame → State → Prop} {k n pc : Nat} {ls : List (Nat × Value)} {st : List Value} {h : List va_E} {x y : Int32} {off : Int} {tgt : Nat} (hd : decode Y.2.1 pc = .ok (.if_icmp .ge off, 3)) (ht : (pc : Int) + off = (tgt : Int)) (kt : y ≤ x → V G Y R Fn k n tgt ls st h) (kf : ¬ y ≤ x → V G Y R Fn k n (pc + 3) ls st h) : V G Y R Fn k n pc ls (.int y :: .int x :: st) h := by
  intro p l e s m args below meth c H locs cells slots lsr X w S hl hc hn
  exact lv_icmp_ge X.exec X.bytes hd ht (fun z => kt z p l e s m args below meth c H locs cells slots lsr X w S hl hc hn) (fun z => kf z p l e s m args below meth c H locs cells slots lsr X w S hl hc hn)
theorem V.if_gt {G : am_G} {Y : am_Y} {R : Room} {Fn : Array Value → State → List Frame → State → Prop} {k n pc : Nat} {ls : List (Nat × Value)} {st : List Value} {h : List va_E} {x : Int32} {off : Int} {tgt : Nat} (hd : decode Y.2.1 pc = .ok (.ifCond .gt off, 3)) (ht : (pc : Int) + off = (tgt : Int)) (kt : 0 < x → V G Y R Fn k n tgt ls st h) (kf : ¬ 0 < x → V G Y R Fn k n (pc + 3) ls st h) : V G Y R Fn k n pc ls (.int x :: st) h := by
  intro p l e s m args below meth c H locs cells slots lsr X w S hl hc hn
  exact lv_if_gt X.exec X.bytes hd ht (fun z => kt z p l e s m args below meth c H locs cells slots lsr X w S hl hc hn) (fun z => kf z p l e s m args below meth c H locs cells slots lsr X w S hl hc hn)
theorem V.icmp_gt {G : am_G} {Y : am_Y} {R : Room} {Fn : Array Value → State → List Frame → State → Prop} {k n pc : Nat} {ls : List (Nat × Value)} {st : List Value} {h : List va_E} {x y : Int32} {off : Int} {tgt : Nat} (hd : decode Y.2.1 pc = .ok (.if_icmp .gt off, 3)) (ht : (pc : Int) + off = (tgt : Int)) (kt : y < x → V G Y R Fn k n tgt ls st h) (kf : ¬ y < x → V G Y R Fn k n (pc + 3) ls st h) : V G Y R Fn k n pc ls (.int y :: .int x :: st) h := by
  intro p l e s m args below meth c H locs cells slots lsr X w S hl hc hn
  exact lv_icmp_gt X.exec X.bytes hd ht (fun z => kt z p l e s m args below meth c H locs cells slots lsr X w S hl hc hn) (fun z => kf z p l e s m args below meth c H locs cells slots lsr X w S hl hc hn)
theorem V.if_le {G : am_G} {Y : am_Y} {R : Room} {Fn : Array Value → State → List Frame → State → Prop} {k n pc : Nat} {ls : List (Nat × Value)} {st : List Value} {h : List va_E} {x : Int32} {off : Int} {tgt : Nat} (hd : decode Y.2.1 pc = .ok (.ifCond .le off, 3)) (ht : (pc : Int) + off = (tgt : Int)) (kt : x ≤ 0 → V G Y R Fn k n tgt ls st h) (kf : ¬ x ≤ 0 → V G Y R Fn k n (pc + 3) ls st h) : V G Y R Fn k n pc ls (.int x :: st) h := by
  intro p l e s m args below meth c H locs cells slots lsr X w S hl hc hn
  exact lv_if_le X.exec X.bytes hd ht (fun z => kt z p l e s m args below meth c H locs cells slots lsr X w S hl hc hn) (fun z => kf z p l e s m args below meth c H locs cells slots lsr X w S hl hc hn)
theorem V.icmp_le {G : am_G} {Y : am_Y} {R : Room} {Fn : Array Value → State → List Frame → State → Prop} {k n pc : Nat} {ls : List (Nat × Value)} {st : List Value} {h : List va_E} {x y : Int32} {off : Int} {tgt : Nat} (hd : decode Y.2.1 pc = .ok (.if_icmp .le off, 3)) (ht : (pc : Int) + off = (tgt : Int)) (kt : x ≤ y → V G Y R Fn k n tgt ls st h) (kf : ¬ x ≤ y → V G Y R Fn k n (pc + 3) ls st h) : V G Y R Fn k n pc ls (.int y :: .int x :: st) h := by
  intro p l e s m args below meth c H locs cells slots lsr X w S hl hc hn
  exact lv_icmp_le X.exec X.bytes hd ht (fun z => kt z p l e s m args below meth c H locs cells slots lsr X w S hl hc hn) (fun z => kf z p l e s m args below meth c H locs cells slots lsr X w S hl hc hn)
theorem V.tableIn {G : am_G} {Y : am_Y} {R : Room} {Fn : Array Value → State → List Frame → State → Prop} {k n pc : Nat} {ls : List (Nat × Value)} {st : List Value} {h : List va_E} {x : Int32} {dflt lo hi off : Int} {offs : Array Int} {len tgt : Nat} (hd : decode Y.2.1 pc = .ok (.tableswitch dflt lo hi offs, len)) (h1 : ¬ x.toInt < lo) (h2 : ¬ hi < x.toInt) (ho : offs[(x.toInt - lo).toNat]? = some off) (ht : (pc : Int) + off = (tgt : Int)) (kk : V G Y R Fn k n tgt ls st h) : V G Y R Fn k n pc ls (.int x :: st) h := by
  intro p l e s m args below meth c H locs cells slots lsr X w S hl hc hn
  exact lv_tableIn X.exec X.bytes hd h1 h2 ho ht (kk p l e s m args below meth c H locs cells slots lsr X w S hl hc hn)
theorem V.tableOut {G : am_G} {Y : am_Y} {R : Room} {Fn : Array Value → State → List Frame → State → Prop} {k n pc : Nat} {ls : List (Nat × Value)} {st : List Value} {h : List va_E} {x : Int32} {dflt lo hi : Int} {offs : Array Int} {len tgt : Nat} (hd : decode Y.2.1 pc = .ok (.tableswitch dflt lo hi offs, len)) (hz : x.toInt < lo ∨ hi < x.toInt) (ht : (pc : Int) + dflt = (tgt : Int)) (kk : V G Y R Fn k n tgt ls st h) : V G Y R Fn k n pc ls (.int x :: st) h := by
  intro p l e s m args below meth c H locs cells slots lsr X w S hl hc hn
  exact lv_tableOut X.exec X.bytes hd hz ht (kk p l e s m args below meth c H locs cells slots lsr X w S hl hc hn)
theorem V.lookup {G : am_G} {Y : am_Y} {R : Room} {Fn : Array Value → State → List Frame → State → Prop} {k n pc : Nat} {ls : List (Nat × Value)} {st : List Value} {h : List va_E} {x : Int32} {dflt off : Int} {ps : Array (Int × Int)} {len tgt : Nat} (hd : decode Y.2.1 pc = .ok (.lookupswitch dflt ps, len)) (hp : (ps.toList.zip (ps.toList.drop 1)).all (fun (a, next) => a.1 < next.1) = true) (ho : Op.lookupswitch.offset ps.toList dflt x.toInt = off) (ht : (pc : Int) + off = (tgt : Int)) (kk : V G Y R Fn k n tgt ls st h) : V G Y R Fn k n pc ls (.int x :: st) h := by
  intro p l e s m args below meth c H locs cells slots lsr X w S hl hc hn
  exact lv_lookup X.exec X.bytes hd hp ho ht (kk p l e s m args below meth c H locs cells slots lsr X w S hl hc hn)
/-- a field reference of a class: which class of ours, which field -/
def am_fd (own : String) (idx ci j : Nat) : Prop := ∃ (C : String) (T : u_T) (N : Nat), am_cl[ci]? = some (C, T, N) ∧ j < N ∧ Cond.fieldLink own idx (T j).1 (T j).2.1 (T j).2.2.1 ∈ am_tbl ∧ ∀ w ∈ u_ws C T N, w ∈ am_tbl
theorem V.get {G : am_G} {Y : am_Y} {R : Room} {Fn : Array Value → State → List Frame → State → Prop} {k n pc : Nat} {ls : List (Nat × Value)} {st : List Value} {h : List va_E} {idx a ci j : Nat} {fs : List Value} {v : Value} (hd : decode Y.2.1 pc = .ok (.getfield idx, 3)) (hf : am_fd Y.1.cls idx ci j) (he : h[a]? = some (.inr (ci, fs))) (hv : fs[j]? = some v) (kk : V G Y R Fn k n (pc + 3) ls (v :: st) h) : V G Y R Fn k n pc ls (.ref a :: st) h := by
  intro p l e s m args below meth c H locs cells slots lsr X w S hl hc hn
  obtain ⟨C, T, N, h1, h2, h3, h4⟩ := hf
  exact va_get (D := gD G) (cl := am_cl) (v := cV G v) (fs := fs.map (cV G)) X.exec X.bytes X.hts h4 X.own X.K.1 w.P a (cW_get he) h1 j h2 (X.hts _ h3) (fun _ z => z) (by simp [hv]) hd (kk p l e s m args below meth c H locs cells slots lsr X w S hl hc hn)
/-- a field that may be written: its types -/
def am_pd (own : String) (idx ci j : Nat) (ty : FieldType) (fin : Bool) (C : String) : Prop := ∃ (T : u_T) (N : Nat) (t0 : Nat → FieldType), am_cl[ci]? = some (C, T, N) ∧ j < N ∧ Cond.fieldLink own idx (T j).1 (T j).2.1 (T j).2.2.1 ∈ am_tbl ∧ (∀ w ∈ u_ws C T N, w ∈ am_tbl) ∧ (∀ k, k < N → parseFieldDescriptor (T k).2.2.1 = some (t0 k)) ∧ (∀ a, a < N → ∀ b, b < N → a ≠ b → (T a).2.1 ≠ (T b).2.1) ∧ t0 j = ty ∧ (T j).2.2.2 = fin ∧ (T j).1 = C
/-- what a value of the layer may be stored as -/
def am_ok (ty : FieldType) (v : Value) : Prop := match v with
  | .int x => narrow ty (.int x) = .int x ∧ fits ty (.int x) = true
  | .ref _ => (∃ C, ty = .object C) ∨ (∃ t, ty = .array t)
  | .null => (∃ C, ty = .object C) ∨ (∃ t, ty = .array t)
  | _ => False
theorem am_ok.use {ty : FieldType} {v : Value} (G : am_G) (o : am_ok ty v) : narrow ty (cV G v) = cV G v ∧ fits ty (cV G v) = true := by
  cases v with
  | int x => exact o
  | ref a => rcases o with ⟨C, rfl⟩ | ⟨t, rfl⟩ <;> exact ⟨rfl, rfl⟩
  | null => rcases o with ⟨C, rfl⟩ | ⟨t, rfl⟩ <;> exact ⟨rfl, rfl⟩
  | long x => exact o.elim
  | float x => exact o.elim
  | double x => exact o.elim
  | retAddr x => exact o.elim
theorem am_set_at {G : am_G} {C : String} {T : u_T} {N ci a j : Nat} {fs : List Value} {v : Value} {H1 : Heap} {cell : Cell} (hc : am_cl[ci]? = some (C, T, N)) (q2 : cell.cls = (gD G).1 ci) (q3 : cell.vm = .none) (q4 : ∀ k, k < N → cell.slots[(gD G).2 ci k]? = some (vp_V (fs.map (cV G)) k)) (hap : ∀ x y, x < N → y < N → x ≠ y → (gD G).2 ci x ≠ (gD G).2 ci y) (hj : j < N) (hl : j < fs.length) (e1 : H1[gB G + a]? = some (cell.setSlot ((gD G).2 ci j) (cV G v))) : va_at (gD G) am_cl (gB G + a, cE G (.inr (ci, fs.set j v))) H1 := by
  refine ⟨_, hc, t_OB.to (V := updV (vp_V (fs.map (cV G))) j (cV G v)) ⟨_, e1, q2, q3, t_set q4 hap hj (cV G v)⟩ (fun x _ => ?_)⟩
  rw [List.map_set]
  exact vp_updV_set (by rw [List.length_map]; exact hl) (cV G v) x
theorem V.put {G : am_G} {Y : am_Y} {R : Room} {Fn : Array Value → State → List Frame → State → Prop} {k n pc : Nat} {ls : List (Nat × Value)} {st : List Value} {h : List va_E} {idx a ci j : Nat} {fs : List Value} {v : Value} {ty : FieldType} {h' : List va_E} {C : String} (hd : decode Y.2.1 pc = .ok (.putfield idx, 3)) (hf : am_pd Y.1.cls idx ci j ty false C) (he : h[a]? = some (.inr (ci, fs))) (hj : j < fs.length) (ho : am_ok ty v) (hh : h.set a (.inr (ci, fs.set j v)) = h') (kk : V G Y R Fn k n (pc + 3) ls st h') : V G Y R Fn k n pc ls (v :: .ref a :: st) h := by
  intro p l e s m args below meth c H locs cells slots lsr X w S hl hc hn
  subst hh
  obtain ⟨T, N, t0, h1, h2, h3, h4, h5, h6, h7, h8, h9⟩ := hf
  have hK := X.K.1
  have hap := va_apart (own := Y.1.cls) X.hts h4 t0 h5 h6 hK h1
  obtain ⟨r, g1, cell, q1, q2, q3, q4⟩ := w.2.2 a _ he
  have hr : r = (C, T, N) := Option.some.inj (g1.symm.trans h1)
  subst hr
  obtain ⟨hS, hfc, kC, hkC, hkind⟩ := hK.1 ci _ h1
  obtain ⟨cf, kf, fi, f, hi, hsl⟩ := hS j h2
  have hlay := X.hts _ (h4 _ (u_in_lay h2))
  unfold u_lay at hlay
  rw [if_neg (by rw [h8]; decide)] at hlay
  have hst := (u_facts hfc hkC (u_lays X.hts h4 h2) hi).1
  have h10 := u_store hfc hkC hkind hlay hi (h7 ▸ h5 j h2) (ho.use G).1 (ho.use G).2
  refine W.putK X.exec X.bytes (f := f) ⟨X.own, X.hts _ h3, ⟨_, _, _, hi⟩, hst⟩ (by rw [q2]; exact h10) q1 q3 (by rw [hsl]; exact k2_hasslot (q4 j h2)) rfl rfl hd fun H' e1 e2 e3 => ?_
  rw [hsl] at e1
  exact kk p l e s m args below meth c H' _ cells slots lsr X (w.set he (am_set_at h1 q2 q3 q4 hap h2 hj e1) e2 e3) (am_S.put S e2 e3) hl hc hn
theorem V.putF {G : am_G} {Y : am_Y} {R : Room} {Fn : Array Value → State → List Frame → State → Prop} {k n pc : Nat} {ls : List (Nat × Value)} {st : List Value} {h : List va_E} {idx a ci j : Nat} {fs : List Value} {v : Value} {ty : FieldType} {h' : List va_E} {C : String} (hd : decode Y.2.1 pc = .ok (.putfield idx, 3)) (hf : am_pd Y.1.cls idx ci j ty true C) (hown : Y.1.cls = C) (hin : Y.1.name = "<init>") (he : h[a]? = some (.inr (ci, fs))) (hj : j < fs.length) (ho : am_ok ty v) (hh : h.set a (.inr (ci, fs.set j v)) = h') (kk : V G Y R Fn k n (pc + 3) ls st h') : V G Y R Fn k n pc ls (v :: .ref a :: st) h := by
  intro p l e s m args below meth c H locs cells slots lsr X w S hl hc hn
  subst hh
  obtain ⟨T, N, t0, h1, h2, h3, h4, h5, h6, h7, h8, h9⟩ := hf
  have hK := X.K.1
  have hap := va_apart (own := Y.1.cls) X.hts h4 t0 h5 h6 hK h1
  obtain ⟨r, g1, cell, q1, q2, q3, q4⟩ := w.2.2 a _ he
  have hr : r = (C, T, N) := Option.some.inj (g1.symm.trans h1)
  subst hr
  obtain ⟨hS, hfc, kC, hkC, hkind⟩ := hK.1 ci _ h1
  obtain ⟨cf, kf, fi, f, hi, hsl⟩ := hS j h2
  have hlay := X.hts _ (h4 _ (u_in_lay h2))
  unfold u_lay at hlay
  rw [if_pos h8] at hlay
  have hst := (u_facts hfc hkC (u_lays X.hts h4 h2) hi).1
  have hcf : m.cls = cf := by
    obtain ⟨_, _, c', _, _, _, -, -, hf', -, -, -, hown2, -⟩ := Cond.laysFinal_spec hlay
    have e1 : c' = cf := by have := hi.symm.trans hf'; simp at this; exact this.1.symm
    rw [h9, ← hown] at hown2
    rw [← e1]; exact Option.some.inj (X.own.symm.trans hown2)
  have h10 := u_fits hfc hkC hkind (Or.inr hlay) hi (h7 ▸ h5 j h2) (ho.use G).1 (ho.use G).2
  refine W.putFinK X.exec X.bytes X.own (X.hts _ h3) hi hst hcf (X.name.trans hin) (by rw [q2]; exact h10) q1 q3 (by rw [hsl]; exact k2_hasslot (q4 j h2)) rfl rfl hd fun H' e1 e2 e3 => ?_
  rw [hsl] at e1
  exact kk p l e s m args below meth c H' _ cells slots lsr X (w.set he (am_set_at h1 q2 q3 q4 hap h2 hj e1) e2 e3) (am_S.put S e2 e3) hl hc hn
theorem V.iald {G : am_G} {Y : am_Y} {R : Room} {Fn : Array Value → State → List Frame → State → Prop} {k n pc : Nat} {ls : List (Nat × Value)} {st : List Value} {h : List va_E} {a N : Nat} {f : Nat → Int32} {i v : Int32} (hd : decode Y.2.1 pc = .ok (.iaload, 1)) (he : h[a]? = some (.inl (0, N, .inl f))) (hi : vp_in i N) (hv : f i.toNatClampNeg = v) (kk : V G Y R Fn k n (pc + 1) ls (.int v :: st) h) : V G Y R Fn k n pc ls (.int i :: .ref a :: st) h := by
  intro p l e s m args below meth c H locs cells slots lsr X w S hl hc hn
  subst hv
  exact va_iald (D := gD G) (cl := am_cl) X.exec X.bytes X.K.1 w.P a 0 (cW_get he) rfl hi hd (kk p l e s m args below meth c H locs cells slots lsr X w S hl hc hn)
theorem V.zald {G : am_G} {Y : am_Y} {R : Room} {Fn : Array Value → State → List Frame → State → Prop} {k n pc : Nat} {ls : List (Nat × Value)} {st : List Value} {h : List va_E} {a N : Nat} {f : Nat → Int32} {i v : Int32} (hd : decode Y.2.1 pc = .ok (.baload, 1)) (he : h[a]? = some (.inl (1, N, .inl f))) (hi : vp_in i N) (hv : f i.toNatClampNeg = v) (kk : V G Y R Fn k n (pc + 1) ls (.int v :: st) h) : V G Y R Fn k n pc ls (.int i :: .ref a :: st) h := by
  intro p l e s m args below meth c H locs cells slots lsr X w S hl hc hn
  subst hv
  exact va_zald (D := gD G) (cl := am_cl) X.exec X.bytes X.K.1 w.P a 1 (cW_get he) rfl hi hd (kk p l e s m args below meth c H locs cells slots lsr X w S hl hc hn)
theorem V.alen {G : am_G} {Y : am_Y} {R : Room} {Fn : Array Value → State → List Frame → State → Prop} {k n pc : Nat} {ls : List (Nat × Value)} {st : List Value} {h : List va_E} {a q : Nat} {x : vp_A} {v : Int32} (hd : decode Y.2.1 pc = .ok (.arraylength, 1)) (he : h[a]? = some (.inl (q, x))) (hq : q < 2) (hv : Int32.ofNat x.1 = v) (kk : V G Y R Fn k n (pc + 1) ls (.int v :: st) h) : V G Y R Fn k n pc ls (.ref a :: st) h := by
  intro p l e s m args below meth c H locs cells slots lsr X w S hl hc hn
  rcases (show q = 0 ∨ q = 1 by omega) with rfl | rfl
  · exact va_alen (D := gD G) (cl := am_cl) X.exec X.bytes X.K.1 w.P a 0 (cW_get he) rfl hv hd (kk p l e s m args below meth c H locs cells slots lsr X w S hl hc hn)
  · exact va_alen (D := gD G) (cl := am_cl) X.exec X.bytes X.K.1 w.P a 1 (cW_get he) rfl hv hd (kk p l e s m args below meth c H locs cells slots lsr X w S hl hc hn)
theorem V.iast {G : am_G} {Y : am_Y} {R : Room} {Fn : Array Value → State → List Frame → State → Prop} {k n pc : Nat} {ls : List (Nat × Value)} {st : List Value} {h : List va_E} {a N : Nat} {f : Nat → Int32} {i x : Int32} {h' : List va_E} (hd : decode Y.2.1 pc = .ok (.iastore, 1)) (he : h[a]? = some (.inl (0, N, .inl f))) (hi : vp_in i N) (hh : h.set a (.inl (0, N, .inl (upd f i.toNatClampNeg x))) = h') (kk : V G Y R Fn k n (pc + 1) ls st h') : V G Y R Fn k n pc ls (.int x :: .int i :: .ref a :: st) h := by
  intro p l e s m args below meth c H locs cells slots lsr X w S hl hc hn
  subst hh
  have hK := X.K.1
  refine W.iast X.exec X.bytes (w.2.2 a _ he) ((hK.2 0 _ rfl).1 N (fun j => .int (f j))) (fun q => by cases q) (by show ¬ (i < 0 ∨ (arrV _ _ _).slots.size ≤ _); rw [arrV_size]; exact hi) rfl rfl hd fun H1 e1 e2 e3 => ?_
  refine kk p l e s m args below meth c H1 _ cells slots lsr X (w.set he ?_ e2 e3) (am_S.put S e2 e3) hl hc hn
  show H1[gB G + a]? = some (arrV (gT G 0) N (fun j => .int (upd f i.toNatClampNeg x j)))
  rw [e1]
  show some ((arrV (gT G 0) N (fun j => .int (f j))).setSlot _ _) = _
  rw [arrV_store]
  congr 2
  funext q
  by_cases hq : q = i.toNatClampNeg
  · subst hq
    simp [updV, upd]
  · simp [updV, upd, hq]
theorem V.zast {G : am_G} {Y : am_Y} {R : Room} {Fn : Array Value → State → List Frame → State → Prop} {k n pc : Nat} {ls : List (Nat × Value)} {st : List Value} {h : List va_E} {a N : Nat} {f : Nat → Int32} {i x : Int32} {h' : List va_E} (hd : decode Y.2.1 pc = .ok (.bastore, 1)) (he : h[a]? = some (.inl (1, N, .inl f))) (hi : vp_in i N) (hx : narrow .boolean (.int x) = .int x) (hh : h.set a (.inl (1, N, .inl (upd f i.toNatClampNeg x))) = h') (kk : V G Y R Fn k n (pc + 1) ls st h') : V G Y R Fn k n pc ls (.int x :: .int i :: .ref a :: st) h := by
  intro p l e s m args below meth c H locs cells slots lsr X w S hl hc hn
  subst hh
  have hK := X.K.1
  refine W.zast X.exec X.bytes (w.2.2 a _ he) ((hK.2 1 _ rfl).1 N (fun j => .int (f j))) (fun q => by cases q) (by show ¬ (i < 0 ∨ (arrV _ _ _).slots.size ≤ _); rw [arrV_size]; exact hi) rfl rfl hd fun H1 e1 e2 e3 => ?_
  refine kk p l e s m args below meth c H1 _ cells slots lsr X (w.set he ?_ e2 e3) (am_S.put S e2 e3) hl hc hn
  show H1[gB G + a]? = some (arrV (gT G 1) N (fun j => .int (upd f i.toNatClampNeg x j)))
  rw [e1, hx]
  show some ((arrV (gT G 1) N (fun j => .int (f j))).setSlot _ _) = _
  rw [arrV_store]
  congr 2
  funext q
  by_cases hq : q = i.toNatClampNeg
  · subst hq
    simp [updV, upd]
  · simp [updV, upd, hq]
theorem V.ildL {G : am_G} {Y : am_Y} {R : Room} {Fn : Array Value → State → List Frame → State → Prop} {k n pc : Nat} {ls : List (Nat × Value)} {st : List Value} {h : List va_E} {a : Nat} {i v : Int32} (hd : decode Y.2.1 pc = .ok (.iaload, 1)) (ha : a < am_low) (hi : vp_in i (gL G a).2.1) (hv : (gL G a).2.2 i.toNatClampNeg = v) (kk : V G Y R Fn k n (pc + 1) ls (.int v :: st) h) : V G Y R Fn k n pc ls (.int i :: .retAddr a :: st) h := by
  intro p l e s m args below meth c H locs cells slots lsr X w S hl hc hn
  have hT := X.K.2.1 a ha
  obtain ⟨cell, h1, h2, h3, h4, h5, h6, h7⟩ := hT
  have hlow : (gL G a).1 < gB G := Nat.not_le.mp h7
  have hT' : va_T .int (gL G a).1 (gL G a).2.1 (fun j => .int ((gL G a).2.2 j)) (gA G) s s.heap := ⟨cell, by rw [X.low _ hlow]; exact h1, h2, h3, h4, h5, h6, h7⟩
  exact va_ti X.exec X.bytes hT' S hi (by rw [hv]; rfl) hd (kk p l e s m args below meth c H locs cells slots lsr X w S hl hc hn)
theorem V.alenL {G : am_G} {Y : am_Y} {R : Room} {Fn : Array Value → State → List Frame → State → Prop} {k n pc : Nat} {ls : List (Nat × Value)} {st : List Value} {h : List va_E} {a : Nat} {v : Int32} (hd : decode Y.2.1 pc = .ok (.arraylength, 1)) (ha : a < am_low) (hv : Int32.ofNat (gL G a).2.1 = v) (kk : V G Y R Fn k n (pc + 1) ls (.int v :: st) h) : V G Y R Fn k n pc ls (.retAddr a :: st) h := by
  intro p l e s m args below meth c H locs cells slots lsr X w S hl hc hn
  have hT := X.K.2.1 a ha
  obtain ⟨cell, h1, h2, h3, h4, h5, h6, h7⟩ := hT
  have hlow : (gL G a).1 < gB G := Nat.not_le.mp h7
  have hT' : va_T .int (gL G a).1 (gL G a).2.1 (fun j => .int ((gL G a).2.2 j)) (gA G) s s.heap := ⟨cell, by rw [X.low _ hlow]; exact h1, h2, h3, h4, h5, h6, h7⟩
  exact va_tlen X.exec X.bytes hT' S hv hd (kk p l e s m args below meth c H locs cells slots lsr X w S hl hc hn)
theorem V.getsL {G : am_G} {Y : am_Y} {R : Room} {Fn : Array Value → State → List Frame → State → Prop} {k n pc : Nat} {ls : List (Nat × Value)} {st : List Value} {h : List va_E} {idx a : Nat} {C f d : String} (hd : decode Y.2.1 pc = .ok (.getstatic idx, 3)) (hz : (C, f, d, a) ∈ am_stat) (hk : Cond.fieldLink Y.1.cls idx C f d ∈ am_tbl) (kk : V G Y R Fn k n (pc + 3) ls (.retAddr a :: st) h) : V G Y R Fn k n pc ls st h := by
  intro p l e s m args below meth c H locs cells slots lsr X w S hl hc hn
  have hZ := X.K.2.2 _ hz
  obtain ⟨cf, kf, fi, ff, aa, cell, h1, h2, h3, h4, h5, h6, h7, h8⟩ := hZ
  have hlow : aa < gB G := Nat.not_le.mp h8
  have hZ' : va_Z C f d (.ref (gL G a).1) (gA G) s s.heap := ⟨cf, kf, fi, ff, aa, cell, h1, h2, h3, h4, by rw [X.low _ hlow]; exact h5, h6, h7, h8⟩
  exact va_gets X.exec X.bytes hZ' S X.own (X.hts _ hk) (fun _ z => z) hd (kk p l e s m args below meth c H locs cells slots lsr X w S hl hc hn)
theorem V.getsN {G : am_G} {Y : am_Y} {R : Room} {Fn : Array Value → State → List Frame → State → Prop} {k n pc : Nat} {ls : List (Nat × Value)} {st : List Value} {h : List va_E} {idx a : Nat} {C f d host : String} (hd : decode Y.2.1 pc = .ok (.getstatic idx, 3)) (hz : (C, f, d, a) ∈ am_stat) (hk : Cond.fieldLinkNest Y.1.cls idx C f d host ∈ am_tbl) (kk : V G Y R Fn k n (pc + 3) ls (.retAddr a :: st) h) : V G Y R Fn k n pc ls st h := by
  intro p l e s m args below meth c H locs cells slots lsr X w S hl hc hn
  have hZ := X.K.2.2 _ hz
  obtain ⟨cf, kf, fi, ff, aa, cell, h1, h2, h3, h4, h5, h6, h7, h8⟩ := hZ
  have hlow : aa < gB G := Nat.not_le.mp h8
  have hZ' : va_Z C f d (.ref (gL G a).1) (gA G) s s.heap := ⟨cf, kf, fi, ff, aa, cell, h1, h2, h3, h4, by rw [X.low _ hlow]; exact h5, h6, h7, h8⟩
  exact va_getsN X.exec X.bytes hZ' S X.own (X.hts _ hk) (fun _ z => z) hd (kk p l e s m args below meth c H locs cells slots lsr X w S hl hc hn)
end
section
theorem V.iret {G : am_G} {Y : am_Y} {d lo mc ms : Nat} {Post : Option Value → List va_E → Prop} {k n pc : Nat} {ls : List (Nat × Value)} {h : List va_E} {x : Int32} (hd : decode Y.2.1 pc = .ok (.ireturn, 1)) (hr : Y.2.2.2 = some .int) (hp : Post (some (.int x)) h) : V G Y (am_R d lo mc ms) (am_Fin G mc ms Post) k n pc ls [.int x] h := by
  intro p l e s m args below meth c H locs cells slots lsr X w S hl hc hn
  have hc' : cells + k ≤ mc := hc
  have hn' : slots + n ≤ ms := hn
  refine W.widen (k := mc) (n := ms) (by omega) (by omega) ?_
  exact W.iret X.exec X.bytes (X.returns.trans hr) (fun t ht hW => ⟨some (.int x), h, rfl, hp, by rw [ht]; exact w, X.K.moved hW.alike, by rw [ht]; exact S.1⟩) S.2.2 hd X.locks
theorem V.zret {G : am_G} {Y : am_Y} {d lo mc ms : Nat} {Post : Option Value → List va_E → Prop} {k n pc : Nat} {ls : List (Nat × Value)} {h : List va_E} {x : Int32} {ty : FieldType} (hd : decode Y.2.1 pc = .ok (.ireturn, 1)) (hr : Y.2.2.2 = some ty) (hx : narrow ty (.int x) = .int x) (hp : Post (some (.int x)) h) : V G Y (am_R d lo mc ms) (am_Fin G mc ms Post) k n pc ls [.int x] h := by
  intro p l e s m args below meth c H locs cells slots lsr X w S hl hc hn
  have hc' : cells + k ≤ mc := hc
  have hn' : slots + n ≤ ms := hn
  refine W.widen (k := mc) (n := ms) (by omega) (by omega) ?_
  exact W.zret X.exec X.bytes (X.returns.trans hr) hx (fun t ht hW => ⟨some (.int x), h, rfl, hp, by rw [ht]; exact w, X.K.moved hW.alike, by rw [ht]; exact S.1⟩) S.2.2 hd X.locks
theorem V.vret {G : am_G} {Y : am_Y} {d lo mc ms : Nat} {Post : Option Value → List va_E → Prop} {k n pc : Nat} {ls : List (Nat × Value)} {h : List va_E} (hd : decode Y.2.1 pc = .ok (.return_, 1)) (hr : Y.2.2.2 = none) (hp : Post none h) : V G Y (am_R d lo mc ms) (am_Fin G mc ms Post) k n pc ls [] h := by
  intro p l e s m args below meth c H locs cells slots lsr X w S hl hc hn
  have hc' : cells + k ≤ mc := hc
  have hn' : slots + n ≤ ms := hn
  refine W.widen (k := mc) (n := ms) (by omega) (by omega) ?_
  exact W.vret X.exec X.bytes (X.returns.trans hr) (fun t ht hW => ⟨none, h, rfl, hp, by rw [ht]; exact w, X.K.moved hW.alike, by rw [ht]; exact S.1⟩) S.2.2 hd X.locks
theorem V.aret {G : am_G} {Y : am_Y} {d lo mc ms : Nat} {Post : Option Value → List va_E → Prop} {k n pc : Nat} {ls : List (Nat × Value)} {h : List va_E} {a : Nat} {rt : FieldType} (hd : decode Y.2.1 pc = .ok (.areturn, 1)) (hr : Y.2.2.2 = some rt) (hrt : (∃ q, rt = .object q) ∨ ∃ t, rt = .array t) (hp : Post (some (.ref a)) h) : V G Y (am_R d lo mc ms) (am_Fin G mc ms Post) k n pc ls [.ref a] h := by
  intro p l e s m args below meth c H locs cells slots lsr X w S hl hc hn
  have hc' : cells + k ≤ mc := hc
  have hn' : slots + n ≤ ms := hn
  refine W.widen (k := mc) (n := ms) (by omega) (by omega) ?_
  exact W.aret X.exec X.bytes (X.returns.trans hr) hrt (Or.inr ⟨_, rfl⟩) (fun t ht hW => ⟨some (.ref a), h, rfl, hp, by rw [ht]; exact w, X.K.moved hW.alike, by rw [ht]; exact S.1⟩) S.2.2 hd X.locks
theorem am_as_args (G : am_G) : ∀ (as : List Value) (i : Nat), (∀ v ∈ as, v.category = 1) → lv_args i (as.map (cV G)) = cL G (am_as i as)
  | [], i, _ => rfl
  | v :: vs, i, hc => by
    have h1 : (cV G v).category = 1 := (cV_cat G v).trans (hc v List.mem_cons_self)
    have h2 := am_as_args G vs (i + 1) (fun u hu => hc u (List.mem_cons_of_mem _ hu))
    simp only [List.map_cons, lv_args, am_as, h1]
    simpa using h2
theorem am_sl_len (G : am_G) : ∀ (as : List Value), (∀ v ∈ as, v.category = 1) → (lg_sl (as.map (cV G))).length = as.length
  | [], _ => rfl
  | v :: vs, hc => by
    have h1 : (cV G v).category = 1 := (cV_cat G v).trans (hc v List.mem_cons_self)
    have h2 := am_sl_len G vs (fun u hu => hc u (List.mem_cons_of_mem _ hu))
    simp only [List.map_cons, lg_sl, List.flatMap_cons, List.length_append, h1] at h2 ⊢
    simp at h2 ⊢
    omega
/-- a contract, by its walk -/
theorem Ct.of {G : am_G} {Y : am_Y} {d lo mc ms : Nat} {as : List Value} {h : List va_E} {Post : Option Value → List va_E → Prop} (hy : plainName Y.1.cls = true) (hl : as.length ≤ Y.2.2.1) (hc : ∀ v ∈ as, v.category = 1) (hv : V G Y (am_R d lo mc ms) (am_Fin G mc ms Post) mc ms 0 (am_as 0 as) [] h) : Ct G Y d lo mc ms as h Post := by
  intro l
  refine Met.ofW (cc := Y.2.1) (maxL := Y.2.2.1) (ret := Y.2.2.2) hy rfl ?_
  intro p e s m args below meth c s₁ B hml hPc
  obtain ⟨rfl, hW, hK⟩ := hPc
  have hts := atoms_spec (ws := am_ws Y) B.pre
  have hown : s.vm.findClass Y.1.cls = some m.cls := findClass_of_methodNamed B.named
  have hnm : meth.name = Y.1.name := (name_of_methodNamed B.named B.method).1
  have hlen := am_sl_len G as hc
  have hl2 := lv_entry (as.map (cV G)) (n := Y.2.2.1) (by rw [hlen]; exact hl)
  rw [am_as_args G as 0 hc] at hl2
  rw [lg_entry_eq]
  generalize (lg_sl (as.map (cV G)) ++ List.replicate (Y.2.2.1 - (lg_sl (as.map (cV G))).length) Slot.unset).toArray = lsr at hl2 ⊢
  have hz := hW.1
  exact hv p l e s m _ below meth c s.heap [] 0 0 lsr ⟨B.exec, B.bytes, hml, B.returns, hown, B.notSynchronized, hnm, fun w hw => hts w (List.mem_cons_of_mem _ hw), hK, hW.2.1, by omega⟩ hW va_S.rf hl2 (by simp [am_R]) (by simp [am_R])
theorem am_good_in {Y : am_Y} (hY : Cond.code Y.1 Y.2.1 Y.2.2.1 Y.2.2.2 ∈ am_tbl) : GoodIn am_tbl (am_ws Y) := by
  intro w hw
  have h1 : w ∈ am_tbl := by
    rcases List.mem_cons.mp hw with rfl | h
    · exact hY
    · exact h
  exact ⟨h1, good_of_word (List.all_eq_true.mp am_good w h1)⟩
/-- behind a call -/
theorem am_call {p : Program} {l : Launch} {e : Env} {R : Room} {s : State} {m : MethodId} {args : Array Value} {below : List Frame} {meth : Method} {c : Code} {H : Heap} {locs : List Loc} {cells slots : Nat} {Q : State → Prop} {G : am_G} {Y : am_Y} {mc ms pc : Nat} {lsr : Array Slot} {st0 rest : List Value} {a : Array Value} {Post : Option Value → List va_E → Prop} (X : am_Fix G Y p s m args meth c) (S : va_S (gA G) s.heap H locs)
    (hr : va_Run p l e R s m args below meth c H locs cells slots mc ms (F0 m pc lsr st0) rest (am_Q G Post a) (gA G))
    (kk : ∀ (r : Option Value) (h' : List va_E) (H1 : Heap) (locs1 : List Loc), Post r h' → am_W G h' H1 → va_S (gA G) s.heap H1 locs1 → W p l e R s m args below meth c H1 locs1 (cells + mc) (slots + ms) Q (F0 m (pc + 3) lsr ((r.map (cV G)).toList ++ rest))) : W p l e R s m args below meth c H locs cells slots Q (F0 m pc lsr st0) := by
  intro T hT X0
  obtain ⟨v, st₀, t, T', L, h0, X', hL, e1, e2, ⟨r, h', hv, hp, hw, hk, hz⟩, stp⟩ := hr T hT X0
  cases hv
  rw [h0] at hz
  have hB := X.big
  obtain ⟨t2, a1, b1⟩ := kk r h' t.heap (locs ++ L) hp hw ⟨Nat.le_trans S.1 hz, fun q h1 h2 => by rw [hw.2.1 q (Nat.not_le.mp h2), X.low q (Nat.not_le.mp h2)], fun q hq => by
      rcases List.mem_append.mp hq with z | z
      · exact S.2.2 q z
      · exact hL q z⟩ T' e1 X'
  exact ⟨t2, stp t2 a1, b1⟩
theorem am_pre {s : State} {H : Heap} {G : am_G} {h : List va_E} {As : List Value} (hW : am_W G h H) (hK : am_K G s) : PreS s H (fun v U => v = (As.map (cV G)).toArray ∧ am_W G h U.heap ∧ am_K G U) (As.map (cV G)) :=
  ⟨fun a U g mk q => ⟨q.1, q.2.1, am_K.moved (u := U) (U := U.calling g mk a) (Vm.Alike.refl U.vm) q.2.2⟩, fun U hU hw => ⟨rfl, by rw [hU]; exact hW, hK.moved hw.alike⟩⟩
/-- a call site: what links it -/
def am_site (own : String) (idx : Nat) (Y : am_Y) (n : Nat) : Prop := Cond.methodLink own idx Y.1 ∈ am_tbl ∧ Cond.initialized Y.1.cls ∈ am_tbl ∧ Cond.code Y.1 Y.2.1 Y.2.2.1 Y.2.2.2 ∈ am_tbl ∧ Y.1.cls ≠ "java/lang/invoke/MethodHandle" ∧ Y.1.cls ≠ "java/lang/invoke/VarHandle" ∧ (parseMethodDescriptor Y.1.desc).map (fun d => d.parameters.length) = some n
def am_siteN (own : String) (idx : Nat) (Y : am_Y) (n : Nat) (host : String) : Prop := Cond.methodLinkNest own idx Y.1 host ∈ am_tbl ∧ Cond.initialized Y.1.cls ∈ am_tbl ∧ Cond.code Y.1 Y.2.1 Y.2.2.1 Y.2.2.2 ∈ am_tbl ∧ Y.1.cls ≠ "java/lang/invoke/MethodHandle" ∧ Y.1.cls ≠ "java/lang/invoke/VarHandle" ∧ (parseMethodDescriptor Y.1.desc).map (fun d => d.parameters.length) = some n
theorem am_site.B {own : String} {idx nn : Nat} {Y : am_Y} {R : Room} {s : State} {args : Array Value} {d lo mc ms : Nat} (h : am_site own idx Y nn) (hts : ∀ w ∈ am_tbl, w.before args s = true) (hR : d + 1 ≤ R.frames ∧ 8 + (Y.2.2.1 + 11) + lo ≤ R.locals) : CallB R s args own idx Y.1 Y.2.1 Y.2.2.1 Y.2.2.2 (am_ws Y) (am_R d lo mc ms) mc ms nn := callB_of nn hts (am_good_in h.2.2.1) rfl rfl rfl (hts _ h.2.1) (hts _ h.1) h.2.2.2 hR
theorem am_siteN.B {own host : String} {idx nn : Nat} {Y : am_Y} {R : Room} {s : State} {args : Array Value} {d lo mc ms : Nat} (h : am_siteN own idx Y nn host) (hts : ∀ w ∈ am_tbl, w.before args s = true) (hR : d + 1 ≤ R.frames ∧ 8 + (Y.2.2.1 + 11) + lo ≤ R.locals) : va_CN R s args own idx Y.1 host Y.2.1 Y.2.2.1 Y.2.2.2 (am_ws Y) (am_R d lo mc ms) mc ms nn := va_cnB nn hts (am_good_in h.2.2.1) rfl rfl rfl (va_Nw.of rfl (hts _ h.1)) (hts _ h.2.1) h.2.2.2 hR
theorem am_toList {G : am_G} (r : Option Value) : r.toList.map (cV G) = (r.map (cV G)).toList := by cases r <;> rfl
theorem V.callS {G : am_G} {Y : am_Y} {R : Room} {Fn : Array Value → State → List Frame → State → Prop} {k n pc : Nat} {ls : List (Nat × Value)} {st : List Value} {h : List va_E} {Y' : am_Y} {d' lo' mc' ms' idx : Nat} {As st0 : List Value} {Post' : Option Value → List va_E → Prop}  (hd : decode Y.2.1 pc = .ok (.invokestatic idx, 3)) (hsite : am_site Y.1.cls idx Y' As.length) (hstat : Cond.static Y'.1 ∈ am_tbl) (hC : Ct G Y' d' lo' mc' ms' As h Post') (hR : d' + 1 ≤ R.frames ∧ 8 + (Y'.2.2.1 + 11) + lo' ≤ R.locals) (hmc : mc' ≤ k) (hms : ms' ≤ n) (hst8 : (st.map fun v => v.category).sum ≤ 8) (hs0 : st0 = (As.reverse ++ st)) (kk : ∀ (r : Option Value) (h' : List va_E), Post' r h' → V G Y R Fn (k - mc') (n - ms') (pc + 3) ls (r.toList ++ st) h') : V G Y R Fn k n pc ls st0 h := by
  intro p l e s m args below meth c H locs cells slots lsr X w S hl hc hn
  subst hs0
  refine am_call X S (va_runS (As := As.map (cV G)) (rest := st.map (cV G)) ⟨X.exec, X.bytes, X.maxL, X.own, X.hts⟩ (hC l) ⟨hsite.B X.hts hR, X.hts _ hstat⟩ (am_pre w X.K) rfl (by simp) hl.1 (by simp [List.map_reverse]) (by show 2 * 0 + ((st.map (cV G)).map fun v => v.category).sum ≤ 8; rw [List.map_map]; simpa [Function.comp_def, cV_cat] using hst8) hd ⟨by omega, by omega⟩) (fun r h' H1 locs1 hp hw hs => ?_)
  have hq := kk r h' hp p l e s m args below meth c H1 locs1 (cells + mc') (slots + ms') lsr X hw hs hl (by omega) (by omega)
  simpa only [List.map_append, am_toList] using hq
theorem V.callSN {G : am_G} {Y : am_Y} {R : Room} {Fn : Array Value → State → List Frame → State → Prop} {k n pc : Nat} {ls : List (Nat × Value)} {st : List Value} {h : List va_E} {Y' : am_Y} {d' lo' mc' ms' idx : Nat} {As st0 : List Value} {Post' : Option Value → List va_E → Prop} {host : String} (hd : decode Y.2.1 pc = .ok (.invokestatic idx, 3)) (hsite : am_siteN Y.1.cls idx Y' As.length host) (hstat : Cond.static Y'.1 ∈ am_tbl) (hC : Ct G Y' d' lo' mc' ms' As h Post') (hR : d' + 1 ≤ R.frames ∧ 8 + (Y'.2.2.1 + 11) + lo' ≤ R.locals) (hmc : mc' ≤ k) (hms : ms' ≤ n) (hst8 : (st.map fun v => v.category).sum ≤ 8) (hs0 : st0 = (As.reverse ++ st)) (kk : ∀ (r : Option Value) (h' : List va_E), Post' r h' → V G Y R Fn (k - mc') (n - ms') (pc + 3) ls (r.toList ++ st) h') : V G Y R Fn k n pc ls st0 h := by
  intro p l e s m args below meth c H locs cells slots lsr X w S hl hc hn
  subst hs0
  refine am_call X S (va_runSN (As := As.map (cV G)) (rest := st.map (cV G)) ⟨X.exec, X.bytes, X.maxL, X.own, X.hts⟩ (hC l) ⟨hsite.B X.hts hR, X.hts _ hstat, trivial⟩ (am_pre w X.K) rfl (by simp) hl.1 (by simp [List.map_reverse]) (by show 2 * 0 + ((st.map (cV G)).map fun v => v.category).sum ≤ 8; rw [List.map_map]; simpa [Function.comp_def, cV_cat] using hst8) hd ⟨by omega, by omega⟩) (fun r h' H1 locs1 hp hw hs => ?_)
  have hq := kk r h' hp p l e s m args below meth c H1 locs1 (cells + mc') (slots + ms') lsr X hw hs hl (by omega) (by omega)
  simpa only [List.map_append, am_toList] using hq
theorem V.callV {G : am_G} {Y : am_Y} {R : Room} {Fn : Array Value → State → List Frame → State → Prop} {k n pc : Nat} {ls : List (Nat × Value)} {st : List Value} {h : List va_E} {Y' : am_Y} {d' lo' mc' ms' idx : Nat} {As st0 : List Value} {Post' : Option Value → List va_E → Prop} {a ci N : Nat} {T : u_T} {fs : List Value} (hd : decode Y.2.1 pc = .ok (.invokevirtual idx, 3)) (hsite : am_site Y.1.cls idx Y' As.length) (hinst : Cond.instanceMethod Y'.1 ∈ am_tbl) (hsel : Cond.selects Y'.1.cls Y'.1 Y'.1 ∈ am_tbl) (hcl : am_cl[ci]? = some (Y'.1.cls, T, N)) (he : h[a]? = some (.inr (ci, fs))) (hC : Ct G Y' d' lo' mc' ms' (.ref a :: As) h Post') (hR : d' + 1 ≤ R.frames ∧ 8 + (Y'.2.2.1 + 11) + lo' ≤ R.locals) (hmc : mc' ≤ k) (hms : ms' ≤ n) (hst8 : (st.map fun v => v.category).sum ≤ 8) (hs0 : st0 = (As.reverse ++ .ref a :: st)) (kk : ∀ (r : Option Value) (h' : List va_E), Post' r h' → V G Y R Fn (k - mc') (n - ms') (pc + 3) ls (r.toList ++ st) h') : V G Y R Fn k n pc ls st0 h := by
  intro p l e s m args below meth c H locs cells slots lsr X w S hl hc hn
  subst hs0
  refine am_call X S (va_runV (As := As.map (cV G)) (rest := st.map (cV G)) (b := gB G + a) ⟨X.exec, X.bytes, X.maxL, X.own, X.hts⟩ (hC l) ⟨hsite.B X.hts hR, X.hts _ hinst, X.hts _ hsel⟩ ⟨(am_pre (As := .ref a :: As) w X.K).1, va_recv (q := (Y'.1.cls, T, N)) X.K.1 w.P hcl (cW_get he), (am_pre (As := .ref a :: As) w X.K).2⟩ rfl (by simp) hl.1 (by simp [List.map_reverse]; rfl) (by show 2 * 0 + ((st.map (cV G)).map fun v => v.category).sum ≤ 8; rw [List.map_map]; simpa [Function.comp_def, cV_cat] using hst8) hd ⟨by omega, by omega⟩) (fun r h' H1 locs1 hp hw hs => ?_)
  have hq := kk r h' hp p l e s m args below meth c H1 locs1 (cells + mc') (slots + ms') lsr X hw hs hl (by omega) (by omega)
  simpa only [List.map_append, am_toList] using hq
theorem V.callVN {G : am_G} {Y : am_Y} {R : Room} {Fn : Array Value → State → List Frame → State → Prop} {k n pc : Nat} {ls : List (Nat × Value)} {st : List Value} {h : List va_E} {Y' : am_Y} {d' lo' mc' ms' idx : Nat} {As st0 : List Value} {Post' : Option Value → List va_E → Prop} {host : String} {a ci N : Nat} {T : u_T} {fs : List Value} (hd : decode Y.2.1 pc = .ok (.invokevirtual idx, 3)) (hsite : am_siteN Y.1.cls idx Y' As.length host) (hinst : Cond.instanceMethod Y'.1 ∈ am_tbl) (hsel : Cond.selects Y'.1.cls Y'.1 Y'.1 ∈ am_tbl) (hcl : am_cl[ci]? = some (Y'.1.cls, T, N)) (he : h[a]? = some (.inr (ci, fs))) (hC : Ct G Y' d' lo' mc' ms' (.ref a :: As) h Post') (hR : d' + 1 ≤ R.frames ∧ 8 + (Y'.2.2.1 + 11) + lo' ≤ R.locals) (hmc : mc' ≤ k) (hms : ms' ≤ n) (hst8 : (st.map fun v => v.category).sum ≤ 8) (hs0 : st0 = (As.reverse ++ .ref a :: st)) (kk : ∀ (r : Option Value) (h' : List va_E), Post' r h' → V G Y R Fn (k - mc') (n - ms') (pc + 3) ls (r.toList ++ st) h') : V G Y R Fn k n pc ls st0 h := by
  intro p l e s m args below meth c H locs cells slots lsr X w S hl hc hn
  subst hs0
  refine am_call X S (va_runVN (As := As.map (cV G)) (rest := st.map (cV G)) (b := gB G + a) ⟨X.exec, X.bytes, X.maxL, X.own, X.hts⟩ (hC l) ⟨hsite.B X.hts hR, X.hts _ hinst, X.hts _ hsel⟩ ⟨(am_pre (As := .ref a :: As) w X.K).1, va_recv (q := (Y'.1.cls, T, N)) X.K.1 w.P hcl (cW_get he), (am_pre (As := .ref a :: As) w X.K).2⟩ rfl (by simp) hl.1 (by simp [List.map_reverse]; rfl) (by show 2 * 0 + ((st.map (cV G)).map fun v => v.category).sum ≤ 8; rw [List.map_map]; simpa [Function.comp_def, cV_cat] using hst8) hd ⟨by omega, by omega⟩) (fun r h' H1 locs1 hp hw hs => ?_)
  have hq := kk r h' hp p l e s m args below meth c H1 locs1 (cells + mc') (slots + ms') lsr X hw hs hl (by omega) (by omega)
  simpa only [List.map_append, am_toList] using hq
theorem V.callI {G : am_G} {Y : am_Y} {R : Room} {Fn : Array Value → State → List Frame → State → Prop} {k n pc : Nat} {ls : List (Nat × Value)} {st : List Value} {h : List va_E} {Y' : am_Y} {d' lo' mc' ms' idx : Nat} {As st0 : List Value} {Post' : Option Value → List va_E → Prop} {a : Nat} (hd : decode Y.2.1 pc = .ok (.invokespecial idx, 3)) (hsite : am_site Y.1.cls idx Y' As.length) (hret : Y'.2.2.2 = none) (hin : Y'.1.name = "<init>") (hinst : Cond.instanceMethod Y'.1 ∈ am_tbl) (hC : Ct G Y' d' lo' mc' ms' (.ref a :: As) h Post') (hR : d' + 1 ≤ R.frames ∧ 8 + (Y'.2.2.1 + 11) + lo' ≤ R.locals) (hmc : mc' ≤ k) (hms : ms' ≤ n) (hst8 : (st.map fun v => v.category).sum ≤ 8) (hs0 : st0 = (As.reverse ++ .ref a :: st)) (kk : ∀ (r : Option Value) (h' : List va_E), Post' r h' → V G Y R Fn (k - mc') (n - ms') (pc + 3) ls (r.toList ++ st) h') : V G Y R Fn k n pc ls st0 h := by
  intro p l e s m args below meth c H locs cells slots lsr X w S hl hc hn
  subst hs0
  refine am_call X S (va_runI (As := As.map (cV G)) (rest := st.map (cV G)) (b := gB G + a) ⟨X.exec, X.bytes, X.maxL, X.own, X.hts⟩ (hC l) ⟨hret ▸ hsite.B X.hts hR, hin, X.hts _ hinst⟩ (am_pre (As := .ref a :: As) w X.K) rfl (by simp) hl.1 (by simp [List.map_reverse]; rfl) (by show 2 * 0 + ((st.map (cV G)).map fun v => v.category).sum ≤ 8; rw [List.map_map]; simpa [Function.comp_def, cV_cat] using hst8) hd ⟨by omega, by omega⟩) (fun r h' H1 locs1 hp hw hs => ?_)
  have hq := kk r h' hp p l e s m args below meth c H1 locs1 (cells + mc') (slots + ms') lsr X hw hs hl (by omega) (by omega)
  simpa only [List.map_append, am_toList] using hq
theorem V.callIN {G : am_G} {Y : am_Y} {R : Room} {Fn : Array Value → State → List Frame → State → Prop} {k n pc : Nat} {ls : List (Nat × Value)} {st : List Value} {h : List va_E} {Y' : am_Y} {d' lo' mc' ms' idx : Nat} {As st0 : List Value} {Post' : Option Value → List va_E → Prop} {host : String} {a : Nat} (hd : decode Y.2.1 pc = .ok (.invokespecial idx, 3)) (hsite : am_siteN Y.1.cls idx Y' As.length host) (hret : Y'.2.2.2 = none) (hin : Y'.1.name = "<init>") (hinst : Cond.instanceMethod Y'.1 ∈ am_tbl) (hC : Ct G Y' d' lo' mc' ms' (.ref a :: As) h Post') (hR : d' + 1 ≤ R.frames ∧ 8 + (Y'.2.2.1 + 11) + lo' ≤ R.locals) (hmc : mc' ≤ k) (hms : ms' ≤ n) (hst8 : (st.map fun v => v.category).sum ≤ 8) (hs0 : st0 = (As.reverse ++ .ref a :: st)) (kk : ∀ (r : Option Value) (h' : List va_E), Post' r h' → V G Y R Fn (k - mc') (n - ms') (pc + 3) ls (r.toList ++ st) h') : V G Y R Fn k n pc ls st0 h := by
  intro p l e s m args below meth c H locs cells slots lsr X w S hl hc hn
  subst hs0
  refine am_call X S (va_runIN (As := As.map (cV G)) (rest := st.map (cV G)) (b := gB G + a) ⟨X.exec, X.bytes, X.maxL, X.own, X.hts⟩ (hC l) ⟨hret ▸ hsite.B X.hts hR, hin, X.hts _ hinst⟩ (am_pre (As := .ref a :: As) w X.K) rfl (by simp) hl.1 (by simp [List.map_reverse]; rfl) (by show 2 * 0 + ((st.map (cV G)).map fun v => v.category).sum ≤ 8; rw [List.map_map]; simpa [Function.comp_def, cV_cat] using hst8) hd ⟨by omega, by omega⟩) (fun r h' H1 locs1 hp hw hs => ?_)
  have hq := kk r h' hp p l e s m args below meth c H1 locs1 (cells + mc') (slots + ms') lsr X hw hs hl (by omega) (by omega)
  simpa only [List.map_append, am_toList] using hq
theorem V.objInit {G : am_G} {Y : am_Y} {R : Room} {Fn : Array Value → State → List Frame → State → Prop} {k n pc : Nat} {ls : List (Nat × Value)} {st : List Value} {h : List va_E} {idx a : Nat} (hd : decode Y.2.1 pc = .ok (.invokespecial idx, 3)) (hlk : Cond.methodLink Y.1.cls idx Lib.objectInit ∈ am_tbl) (hin : Cond.instanceMethod Lib.objectInit ∈ am_tbl) (hco : Cond.code Lib.objectInit ⟨#[0xb1]⟩ 1 none ∈ am_tbl) (hR : 1 ≤ R.frames) (hR2 : (st.map fun v => v.category).sum + 12 ≤ R.locals) (kk : V G Y R Fn k n (pc + 3) ls st h) : V G Y R Fn k n pc ls (.ref a :: st) h := by
  intro p l e s m args below meth c H locs cells slots lsr X w S hl hc hn
  refine W.objInit X.exec X.bytes X.own (X.hts _ hlk) (X.hts _ hin) (X.hts _ hco) rfl (hl.1.trans X.maxL.symm) rfl hd hR ?_ ?_
  · show 2 * 0 + ((st.map (cV G)).map fun v => v.category).sum + 12 ≤ R.locals
    rw [List.map_map]
    simpa [Function.comp_def, cV_cat] using hR2
  · exact kk p l e s m args below meth c H locs cells slots lsr X w S hl hc hn
/-- a class that may be made -/
def am_nw (own : String) (idx ci : Nat) (fs : List Value) : Prop := ∃ (C : String) (T : u_T) (N : Nat) (t0 : Nat → FieldType), am_cl[ci]? = some (C, T, N) ∧ fs.length = N ∧ Cond.classLink own idx C ∈ am_tbl ∧ Cond.instantiable C N ∈ am_tbl ∧ Cond.initialized C ∈ am_tbl ∧ (∀ w ∈ u_ws C T N, w ∈ am_tbl) ∧ (∀ k, k < N → parseFieldDescriptor (T k).2.2.1 = some (t0 k)) ∧ (∀ k, k < N → fs[k]? = some (defaultValue (t0 k))) ∧ (∀ v ∈ fs, v = .null ∨ ∃ x, v = .int x)
theorem V.new {G : am_G} {Y : am_Y} {R : Room} {Fn : Array Value → State → List Frame → State → Prop} {k n pc : Nat} {ls : List (Nat × Value)} {st : List Value} {h : List va_E} {idx ci : Nat} {fs : List Value} {h' : List va_E} {k' n' : Nat} (hd : decode Y.2.1 pc = .ok (.new idx, 3)) (hw : am_nw Y.1.cls idx ci fs) (hk : k' + 1 = k) (hn' : n' + fs.length = n) (hh : h ++ [.inr (ci, fs)] = h') (kk : V G Y R Fn k' n' (pc + 3) ls (.ref h.length :: st) h') : V G Y R Fn k n pc ls st h := by
  intro p l e s m args below meth c H locs cells slots lsr X w S hl hc hn
  subst hh
  obtain ⟨C, T, N, t0, h1, h2, h3, h4, h5, h6, h7, h8, h9⟩ := hw
  have hK := X.K.1
  have hKn := hK.1 ci _ h1
  have hz := w.1
  have hmap : fs.map (cV G) = fs := by
    conv => rhs; rw [← List.map_id fs]
    refine List.map_congr_left fun v hv => ?_
    rcases h9 v hv with rfl | ⟨x, rfl⟩ <;> rfl
  refine W.newcK (h := gB G + h.length) X.exec X.bytes X.own (X.hts _ h3) (X.hts _ h4) (X.hts _ h5) rfl hd (by omega) (by omega) hKn.2.1 hz fun H1 kC hkC e1 z1 o1 => ?_
  refine kk p l e s m args below meth c H1 locs (cells + 1) (slots + N) lsr X (w.push ?_ (by omega) (fun q hq => o1 q (by omega))) ⟨by have := S.1; omega, fun q q1 q2 => by rw [o1 q (by have : q < gB G := Nat.not_le.mp q2; omega)]; exact S.2.1 q q1 q2, S.2.2⟩ hl (by omega) (by omega)
  refine ⟨_, h1, (u_born t0 X.hts h6 hKn hkC e1 h7).to (fun j hj => ?_)⟩
  rw [hmap]
  simp [vp_V, List.getD, h8 j hj]
theorem V.newa {G : am_G} {Y : am_Y} {R : Room} {Fn : Array Value → State → List Frame → State → Prop} {k n pc : Nat} {ls : List (Nat × Value)} {st : List Value} {h : List va_E} {atype : ArrayType} {q N : Nat} {i : Int32} {h' : List va_E} {k' n' : Nat} (hd : decode Y.2.1 pc = .ok (.newarray atype, 2)) (ht : (q = 0 ∧ atype = .int) ∨ (q = 1 ∧ atype = .boolean)) (hw : Cond.arrayClass (newarray.typeOf atype) ∈ am_tbl) (hi : ¬ i < 0) (hN : i.toNatClampNeg = N) (hN2 : N ≤ 1000000) (hk : k' + 1 = k) (hn' : n' + N = n) (hh : h ++ [.inl (q, N, .inl (fun _ => 0))] = h') (kk : V G Y R Fn k' n' (pc + 2) ls (.ref h.length :: st) h') : V G Y R Fn k n pc ls (.int i :: st) h := by
  intro p l e s m args below meth c H locs cells slots lsr X w S hl hc hn
  subst hh
  have hK := X.K.1
  have hz := w.1
  rcases ht with ⟨rfl, rfl⟩ | ⟨rfl, rfl⟩
  · refine va_newaK (h := gB G + h.length) X.exec X.bytes (X.hts _ hw) rfl hd rfl hi hN (by show N * 4 ≤ _; omega) (by omega) (by omega) hz fun H1 cA e1 z1 o1 hAr hNm => ?_
    have hcA : cA = gT G 0 := Option.some.inj (hNm.symm.trans ((hK.2 0 _ rfl).2))
    subst hcA
    exact kk p l e s m args below meth c H1 locs (cells + 1) (slots + N) lsr X (w.push e1 (by omega) (fun q hq => o1 q (by omega))) ⟨by have := S.1; omega, fun q q1 q2 => by rw [o1 q (by have : q < gB G := Nat.not_le.mp q2; omega)]; exact S.2.1 q q1 q2, S.2.2⟩ hl (by omega) (by omega)
  · refine va_newaK (h := gB G + h.length) X.exec X.bytes (X.hts _ hw) rfl hd rfl hi hN (by show N * 1 ≤ _; omega) (by omega) (by omega) hz fun H1 cA e1 z1 o1 hAr hNm => ?_
    have hcA : cA = gT G 1 := Option.some.inj (hNm.symm.trans ((hK.2 1 _ rfl).2))
    subst hcA
    exact kk p l e s m args below meth c H1 locs (cells + 1) (slots + N) lsr X (w.push e1 (by omega) (fun q hq => o1 q (by omega))) ⟨by have := S.1; omega, fun q q1 q2 => by rw [o1 q (by have : q < gB G := Nat.not_le.mp q2; omega)]; exact S.2.1 q q1 q2, S.2.2⟩ hl (by omega) (by omega)
theorem V.ialdN {G : am_G} {Y : am_Y} {R : Room} {Fn : Array Value → State → List Frame → State → Prop} {k n pc : Nat} {ls : List (Nat × Value)} {st : List Value} {h : List va_E} {a N j : Nat} {f : Nat → Int32} {v : Int32} (hd : decode Y.2.1 pc = .ok (.iaload, 1)) (he : h[a]? = some (.inl (0, N, .inl f))) (hj : j < N) (hN : N < 2 ^ 31) (hv : f j = v) (kk : V G Y R Fn k n (pc + 1) ls (.int v :: st) h) : V G Y R Fn k n pc ls (.int (nI j) :: .ref a :: st) h := V.iald hd he (vp_in_nI hj hN) (by rw [nI_clamp (by omega)]; exact hv) kk
theorem V.zaldN {G : am_G} {Y : am_Y} {R : Room} {Fn : Array Value → State → List Frame → State → Prop} {k n pc : Nat} {ls : List (Nat × Value)} {st : List Value} {h : List va_E} {a N j : Nat} {f : Nat → Int32} {v : Int32} (hd : decode Y.2.1 pc = .ok (.baload, 1)) (he : h[a]? = some (.inl (1, N, .inl f))) (hj : j < N) (hN : N < 2 ^ 31) (hv : f j = v) (kk : V G Y R Fn k n (pc + 1) ls (.int v :: st) h) : V G Y R Fn k n pc ls (.int (nI j) :: .ref a :: st) h := V.zald hd he (vp_in_nI hj hN) (by rw [nI_clamp (by omega)]; exact hv) kk
theorem V.iastN {G : am_G} {Y : am_Y} {R : Room} {Fn : Array Value → State → List Frame → State → Prop} {k n pc : Nat} {ls : List (Nat × Value)} {st : List Value} {h : List va_E} {a N j : Nat} {f : Nat → Int32} {x : Int32} {h' : List va_E} (hd : decode Y.2.1 pc = .ok (.iastore, 1)) (he : h[a]? = some (.inl (0, N, .inl f))) (hj : j < N) (hN : N < 2 ^ 31) (hh : h.set a (.inl (0, N, .inl (upd f j x))) = h') (kk : V G Y R Fn k n (pc + 1) ls st h') : V G Y R Fn k n pc ls (.int x :: .int (nI j) :: .ref a :: st) h := V.iast hd he (vp_in_nI hj hN) (by rw [nI_clamp (by omega)]; exact hh) kk
theorem V.zastN {G : am_G} {Y : am_Y} {R : Room} {Fn : Array Value → State → List Frame → State → Prop} {k n pc : Nat} {ls : List (Nat × Value)} {st : List Value} {h : List va_E} {a N j : Nat} {f : Nat → Int32} {x : Int32} {h' : List va_E} (hd : decode Y.2.1 pc = .ok (.bastore, 1)) (he : h[a]? = some (.inl (1, N, .inl f))) (hj : j < N) (hN : N < 2 ^ 31) (hx : narrow .boolean (.int x) = .int x) (hh : h.set a (.inl (1, N, .inl (upd f j x))) = h') (kk : V G Y R Fn k n (pc + 1) ls st h') : V G Y R Fn k n pc ls (.int x :: .int (nI j) :: .ref a :: st) h := V.zast hd he (vp_in_nI hj hN) hx (by rw [nI_clamp (by omega)]; exact hh) kk
theorem V.iincN {G : am_G} {Y : am_Y} {R : Room} {Fn : Array Value → State → List Frame → State → Prop} {k n pc : Nat} {ls : List (Nat × Value)} {st : List Value} {h : List va_E} {i j x : Nat} {ls' : List (Nat × Value)} (hd : decode Y.2.1 pc = .ok (.iinc i 1, 3)) (hj : ls[j]? = some (i, .int (nI x))) (hi : i < Y.2.2.1) (hls : am_st i (.int (nI (x + 1))) ls = ls') (kk : V G Y R Fn k n (pc + 3) ls' st h) : V G Y R Fn k n pc ls st h := V.iinc hd hj (nI_1 x) hi hls kk
theorem V.ideclN {G : am_G} {Y : am_Y} {R : Room} {Fn : Array Value → State → List Frame → State → Prop} {k n pc : Nat} {ls : List (Nat × Value)} {st : List Value} {h : List va_E} {i j x : Nat} {ls' : List (Nat × Value)} (hd : decode Y.2.1 pc = .ok (.iinc i (-1), 3)) (hj : ls[j]? = some (i, .int (nI (x + 1)))) (hi : i < Y.2.2.1) (hls : am_st i (.int (nI x)) ls = ls') (kk : V G Y R Fn k n (pc + 3) ls' st h) : V G Y R Fn k n pc ls st h := V.iinc hd hj (pk_m1 x) hi hls kk
theorem V.iaddN {G : am_G} {Y : am_Y} {R : Room} {Fn : Array Value → State → List Frame → State → Prop} {k n pc : Nat} {ls : List (Nat × Value)} {st : List Value} {h : List va_E} {x y : Nat} (hd : decode Y.2.1 pc = .ok (.iadd, 1)) (kk : V G Y R Fn k n (pc + 1) ls (.int (nI (x + y)) :: st) h) : V G Y R Fn k n pc ls (.int (nI y) :: .int (nI x) :: st) h := V.iadd hd (by rw [nI_add]; exact kk)
theorem V.isubN {G : am_G} {Y : am_Y} {R : Room} {Fn : Array Value → State → List Frame → State → Prop} {k n pc : Nat} {ls : List (Nat × Value)} {st : List Value} {h : List va_E} {x y : Nat} (hd : decode Y.2.1 pc = .ok (.isub, 1)) (hle : y ≤ x) (kk : V G Y R Fn k n (pc + 1) ls (.int (nI (x - y)) :: st) h) : V G Y R Fn k n pc ls (.int (nI y) :: .int (nI x) :: st) h := V.isub hd (by rw [pk_sub hle]; exact kk)
theorem V.imulN {G : am_G} {Y : am_Y} {R : Room} {Fn : Array Value → State → List Frame → State → Prop} {k n pc : Nat} {ls : List (Nat × Value)} {st : List Value} {h : List va_E} {x y : Nat} (hd : decode Y.2.1 pc = .ok (.imul, 1)) (kk : V G Y R Fn k n (pc + 1) ls (.int (nI (x * y)) :: st) h) : V G Y R Fn k n pc ls (.int (nI y) :: .int (nI x) :: st) h := V.imul hd (by rw [pk_mul]; exact kk)
theorem V.icmp_ltN {G : am_G} {Y : am_Y} {R : Room} {Fn : Array Value → State → List Frame → State → Prop} {k n pc : Nat} {ls : List (Nat × Value)} {st : List Value} {h : List va_E} {x y : Nat} {off : Int} {tgt : Nat} (hd : decode Y.2.1 pc = .ok (.if_icmp .lt off, 3)) (ht : (pc : Int) + off = (tgt : Int)) (hx : x < 2 ^ 31) (hy : y < 2 ^ 31) (kt : x < y → V G Y R Fn k n tgt ls st h) (kf : ¬ x < y → V G Y R Fn k n (pc + 3) ls st h) : V G Y R Fn k n pc ls (.int (nI y) :: .int (nI x) :: st) h := V.icmp_lt hd ht (fun z => kt ((nI_ltI hx hy).mp z)) (fun z => kf (fun q => z ((nI_ltI hx hy).mpr q)))
theorem V.icmp_geN {G : am_G} {Y : am_Y} {R : Room} {Fn : Array Value → State → List Frame → State → Prop} {k n pc : Nat} {ls : List (Nat × Value)} {st : List Value} {h : List va_E} {x y : Nat} {off : Int} {tgt : Nat} (hd : decode Y.2.1 pc = .ok (.if_icmp .ge off, 3)) (ht : (pc : Int) + off = (tgt : Int)) (hx : x < 2 ^ 31) (hy : y < 2 ^ 31) (kt : y ≤ x → V G Y R Fn k n tgt ls st h) (kf : ¬ y ≤ x → V G Y R Fn k n (pc + 3) ls st h) : V G Y R Fn k n pc ls (.int (nI y) :: .int (nI x) :: st) h := V.icmp_ge hd ht (fun z => kt ((nI_leI hy hx).mp z)) (fun z => kf (fun q => z ((nI_leI hy hx).mpr q)))
theorem V.icmp_gtN {G : am_G} {Y : am_Y} {R : Room} {Fn : Array Value → State → List Frame → State → Prop} {k n pc : Nat} {ls : List (Nat × Value)} {st : List Value} {h : List va_E} {x y : Nat} {off : Int} {tgt : Nat} (hd : decode Y.2.1 pc = .ok (.if_icmp .gt off, 3)) (ht : (pc : Int) + off = (tgt : Int)) (hx : x < 2 ^ 31) (hy : y < 2 ^ 31) (kt : y < x → V G Y R Fn k n tgt ls st h) (kf : ¬ y < x → V G Y R Fn k n (pc + 3) ls st h) : V G Y R Fn k n pc ls (.int (nI y) :: .int (nI x) :: st) h := V.icmp_gt hd ht (fun z => kt ((nI_ltI hy hx).mp z)) (fun z => kf (fun q => z ((nI_ltI hy hx).mpr q)))
theorem V.icmp_leN {G : am_G} {Y : am_Y} {R : Room} {Fn : Array Value → State → List Frame → State → Prop} {k n pc : Nat} {ls : List (Nat × Value)} {st : List Value} {h : List va_E} {x y : Nat} {off : Int} {tgt : Nat} (hd : decode Y.2.1 pc = .ok (.if_icmp .le off, 3)) (ht : (pc : Int) + off = (tgt : Int)) (hx : x < 2 ^ 31) (hy : y < 2 ^ 31) (kt : x ≤ y → V G Y R Fn k n tgt ls st h) (kf : ¬ x ≤ y → V G Y R Fn k n (pc + 3) ls st h) : V G Y R Fn k n pc ls (.int (nI y) :: .int (nI x) :: st) h := V.icmp_le hd ht (fun z => kt ((nI_leI hx hy).mp z)) (fun z => kf (fun q => z ((nI_leI hx hy).mpr q)))
theorem V.icmp_eqN {G : am_G} {Y : am_Y} {R : Room} {Fn : Array Value → State → List Frame → State → Prop} {k n pc : Nat} {ls : List (Nat × Value)} {st : List Value} {h : List va_E} {x y : Nat} {off : Int} {tgt : Nat} (hd : decode Y.2.1 pc = .ok (.if_icmp .eq off, 3)) (ht : (pc : Int) + off = (tgt : Int)) (hx : x < 2 ^ 31) (hy : y < 2 ^ 31) (kt : x = y → V G Y R Fn k n tgt ls st h) (kf : ¬ x = y → V G Y R Fn k n (pc + 3) ls st h) : V G Y R Fn k n pc ls (.int (nI y) :: .int (nI x) :: st) h := V.icmp_eq hd ht (fun z => kt ((nI_eq hx hy).mp z)) (fun z => kf (fun q => z ((nI_eq hx hy).mpr q)))
theorem V.icmp_neN {G : am_G} {Y : am_Y} {R : Room} {Fn : Array Value → State → List Frame → State → Prop} {k n pc : Nat} {ls : List (Nat × Value)} {st : List Value} {h : List va_E} {x y : Nat} {off : Int} {tgt : Nat} (hd : decode Y.2.1 pc = .ok (.if_icmp .ne off, 3)) (ht : (pc : Int) + off = (tgt : Int)) (hx : x < 2 ^ 31) (hy : y < 2 ^ 31) (kt : ¬ x = y → V G Y R Fn k n tgt ls st h) (kf : x = y → V G Y R Fn k n (pc + 3) ls st h) : V G Y R Fn k n pc ls (.int (nI y) :: .int (nI x) :: st) h := V.icmp_ne hd ht (fun z => kt (fun q => z ((nI_eq hx hy).mpr q))) (fun z => kf ((nI_eq hx hy).mp z))
theorem nI_z0 {x : Nat} (hx : x < 2 ^ 31) : nI x = 0 ↔ x = 0 := by rw [← nI_0]; exact nI_eq hx (by omega)
theorem nI_lt0 {x : Nat} (hx : x < 2 ^ 31) : ¬ nI x < 0 := nI_pos hx
theorem nI_0le {x : Nat} (hx : x < 2 ^ 31) : (0 : Int32) ≤ nI x := nI_pos' hx
theorem nI_0lt {x : Nat} (hx : x < 2 ^ 31) : (0 : Int32) < nI x ↔ 0 < x := by rw [← nI_0]; exact nI_ltI (by omega) hx
theorem nI_le0 {x : Nat} (hx : x < 2 ^ 31) : nI x ≤ 0 ↔ x = 0 := by rw [← nI_0, nI_leI hx (by omega)]; omega
theorem V.if_eqN {G : am_G} {Y : am_Y} {R : Room} {Fn : Array Value → State → List Frame → State → Prop} {k n pc : Nat} {ls : List (Nat × Value)} {st : List Value} {h : List va_E} {x : Nat} {off : Int} {tgt : Nat} (hd : decode Y.2.1 pc = .ok (.ifCond .eq off, 3)) (ht : (pc : Int) + off = (tgt : Int)) (hx : x < 2 ^ 31) (kt : x = 0 → V G Y R Fn k n tgt ls st h) (kf : ¬ x = 0 → V G Y R Fn k n (pc + 3) ls st h) : V G Y R Fn k n pc ls (.int (nI x) :: st) h := V.if_eq hd ht (fun z => kt ((nI_z0 hx).mp z)) (fun z => kf (fun q => z ((nI_z0 hx).mpr q)))
theorem V.if_gtN {G : am_G} {Y : am_Y} {R : Room} {Fn : Array Value → State → List Frame → State → Prop} {k n pc : Nat} {ls : List (Nat × Value)} {st : List Value} {h : List va_E} {x : Nat} {off : Int} {tgt : Nat} (hd : decode Y.2.1 pc = .ok (.ifCond .gt off, 3)) (ht : (pc : Int) + off = (tgt : Int)) (hx : x < 2 ^ 31) (kt : 0 < x → V G Y R Fn k n tgt ls st h) (kf : ¬ 0 < x → V G Y R Fn k n (pc + 3) ls st h) : V G Y R Fn k n pc ls (.int (nI x) :: st) h := V.if_gt hd ht (fun z => kt ((nI_0lt hx).mp z)) (fun z => kf (fun q => z ((nI_0lt hx).mpr q)))
theorem V.if_leN {G : am_G} {Y : am_Y} {R : Room} {Fn : Array Value → State → List Frame → State → Prop} {k n pc : Nat} {ls : List (Nat × Value)} {st : List Value} {h : List va_E} {x : Nat} {off : Int} {tgt : Nat} (hd : decode Y.2.1 pc = .ok (.ifCond .le off, 3)) (ht : (pc : Int) + off = (tgt : Int)) (hx : x < 2 ^ 31) (kt : x = 0 → V G Y R Fn k n tgt ls st h) (kf : ¬ x = 0 → V G Y R Fn k n (pc + 3) ls st h) : V G Y R Fn k n pc ls (.int (nI x) :: st) h := V.if_le hd ht (fun z => kt ((nI_le0 hx).mp z)) (fun z => kf (fun q => z ((nI_le0 hx).mpr q)))
theorem V.if_neN {G : am_G} {Y : am_Y} {R : Room} {Fn : Array Value → State → List Frame → State → Prop} {k n pc : Nat} {ls : List (Nat × Value)} {st : List Value} {h : List va_E} {x : Nat} {off : Int} {tgt : Nat} (hd : decode Y.2.1 pc = .ok (.ifCond .ne off, 3)) (ht : (pc : Int) + off = (tgt : Int)) (hx : x < 2 ^ 31) (kt : ¬ x = 0 → V G Y R Fn k n tgt ls st h) (kf : x = 0 → V G Y R Fn k n (pc + 3) ls st h) : V G Y R Fn k n pc ls (.int (nI x) :: st) h := V.if_ne hd ht (fun z => kt (fun q => z ((nI_z0 hx).mpr q))) (fun z => kf ((nI_z0 hx).mp z))
theorem V.if_ltN {G : am_G} {Y : am_Y} {R : Room} {Fn : Array Value → State → List Frame → State → Prop} {k n pc : Nat} {ls : List (Nat × Value)} {st : List Value} {h : List va_E} {x : Nat} {off : Int} {tgt : Nat} (hd : decode Y.2.1 pc = .ok (.ifCond .lt off, 3)) (ht : (pc : Int) + off = (tgt : Int)) (hx : x < 2 ^ 31) (kf : V G Y R Fn k n (pc + 3) ls st h) : V G Y R Fn k n pc ls (.int (nI x) :: st) h := V.if_lt hd ht (fun z => absurd z (nI_lt0 hx)) (fun _ => kf)
theorem V.if_geN {G : am_G} {Y : am_Y} {R : Room} {Fn : Array Value → State → List Frame → State → Prop} {k n pc : Nat} {ls : List (Nat × Value)} {st : List Value} {h : List va_E} {x : Nat} {off : Int} {tgt : Nat} (hd : decode Y.2.1 pc = .ok (.ifCond .ge off, 3)) (ht : (pc : Int) + off = (tgt : Int)) (hx : x < 2 ^ 31) (kt : V G Y R Fn k n tgt ls st h) : V G Y R Fn k n pc ls (.int (nI x) :: st) h := V.if_ge hd ht (fun _ => kt) (fun z => absurd (nI_0le hx) z)
end
