section
-- ===== PART A: goes FIRST, ahead of the names: the tables' words, and 'selects' of the private methods out of them =====
/-- a private method of a class that the tables say can be made, by its rows of tables_1 -/
def lw_okq (q : MethodName × Nat) : Prop := (q.1.cls ≠ "java/lang/invoke/MethodHandle" ∧ q.1.cls ≠ "java/lang/invoke/VarHandle") ∧ Cond.instantiable q.1.cls q.2 ∈ tables_1 ∧ Cond.privateMethod q.1 ∈ tables_1 ∧ Cond.instanceMethod q.1 ∈ tables_1
theorem lw_p0 : lw_okq (⟨"TooMany", "flightAt", "(I)LTooMany$Flight;"⟩, 8) := ⟨⟨by decide +kernel, by decide +kernel⟩, List.mem_of_getElem? (i := 12) (by decide +kernel), List.mem_of_getElem? (i := 154) (by decide +kernel), List.mem_of_getElem? (i := 155) (by decide +kernel)⟩
theorem lw_p1 : lw_okq (⟨"TooMany", "setChange", "(I)I"⟩, 8) := ⟨⟨by decide +kernel, by decide +kernel⟩, List.mem_of_getElem? (i := 12) (by decide +kernel), List.mem_of_getElem? (i := 210) (by decide +kernel), List.mem_of_getElem? (i := 211) (by decide +kernel)⟩
theorem lw_p2 : lw_okq (⟨"TooMany", "loadOf", "(LTooMany$Flight;)I"⟩, 8) := ⟨⟨by decide +kernel, by decide +kernel⟩, List.mem_of_getElem? (i := 12) (by decide +kernel), List.mem_of_getElem? (i := 218) (by decide +kernel), List.mem_of_getElem? (i := 219) (by decide +kernel)⟩
theorem lw_p3 : lw_okq (⟨"TooMany", "overOf", "(LTooMany$Flight;)I"⟩, 8) := ⟨⟨by decide +kernel, by decide +kernel⟩, List.mem_of_getElem? (i := 12) (by decide +kernel), List.mem_of_getElem? (i := 226) (by decide +kernel), List.mem_of_getElem? (i := 227) (by decide +kernel)⟩
theorem lw_p4 : lw_okq (⟨"TooMany", "mustPeople", "(LTooMany$Flight;)I"⟩, 8) := ⟨⟨by decide +kernel, by decide +kernel⟩, List.mem_of_getElem? (i := 12) (by decide +kernel), List.mem_of_getElem? (i := 233) (by decide +kernel), List.mem_of_getElem? (i := 234) (by decide +kernel)⟩
theorem lw_p5 : lw_okq (⟨"TooMany", "flyingPeople", "()I"⟩, 8) := ⟨⟨by decide +kernel, by decide +kernel⟩, List.mem_of_getElem? (i := 12) (by decide +kernel), List.mem_of_getElem? (i := 241) (by decide +kernel), List.mem_of_getElem? (i := 242) (by decide +kernel)⟩
theorem lw_p6 : lw_okq (⟨"TooMany", "peopleIn", "(I)I"⟩, 8) := ⟨⟨by decide +kernel, by decide +kernel⟩, List.mem_of_getElem? (i := 12) (by decide +kernel), List.mem_of_getElem? (i := 245) (by decide +kernel), List.mem_of_getElem? (i := 246) (by decide +kernel)⟩
theorem lw_p7 : lw_okq (⟨"TooMany", "peopleWithWay", "()I"⟩, 8) := ⟨⟨by decide +kernel, by decide +kernel⟩, List.mem_of_getElem? (i := 12) (by decide +kernel), List.mem_of_getElem? (i := 249) (by decide +kernel), List.mem_of_getElem? (i := 250) (by decide +kernel)⟩
theorem lw_p8 : lw_okq (⟨"TooMany", "allClaims", "()I"⟩, 8) := ⟨⟨by decide +kernel, by decide +kernel⟩, List.mem_of_getElem? (i := 12) (by decide +kernel), List.mem_of_getElem? (i := 253) (by decide +kernel), List.mem_of_getElem? (i := 254) (by decide +kernel)⟩
theorem lw_p9 : lw_okq (⟨"TooMany", "claimOf", "(LTooMany$Party;)I"⟩, 8) := ⟨⟨by decide +kernel, by decide +kernel⟩, List.mem_of_getElem? (i := 12) (by decide +kernel), List.mem_of_getElem? (i := 257) (by decide +kernel), List.mem_of_getElem? (i := 258) (by decide +kernel)⟩
theorem lw_p10 : lw_okq (⟨"TooMany", "baseFee", "(I)I"⟩, 8) := ⟨⟨by decide +kernel, by decide +kernel⟩, List.mem_of_getElem? (i := 12) (by decide +kernel), List.mem_of_getElem? (i := 261) (by decide +kernel), List.mem_of_getElem? (i := 262) (by decide +kernel)⟩
theorem lw_p11 : lw_okq (⟨"TooMany", "cheapestDeal", "(LTooMany$Flight;I)J"⟩, 8) := ⟨⟨by decide +kernel, by decide +kernel⟩, List.mem_of_getElem? (i := 12) (by decide +kernel), List.mem_of_getElem? (i := 278) (by decide +kernel), List.mem_of_getElem? (i := 279) (by decide +kernel)⟩
theorem lw_p12 : lw_okq (⟨"TooMany", "offerDeals", "(IIJ)V"⟩, 8) := ⟨⟨by decide +kernel, by decide +kernel⟩, List.mem_of_getElem? (i := 12) (by decide +kernel), List.mem_of_getElem? (i := 288) (by decide +kernel), List.mem_of_getElem? (i := 289) (by decide +kernel)⟩
theorem lw_p13 : lw_okq (⟨"TooMany", "leastDeal", "(II)J"⟩, 8) := ⟨⟨by decide +kernel, by decide +kernel⟩, List.mem_of_getElem? (i := 12) (by decide +kernel), List.mem_of_getElem? (i := 292) (by decide +kernel), List.mem_of_getElem? (i := 293) (by decide +kernel)⟩
theorem lw_p14 : lw_okq (⟨"TooMany", "lowestBidders", "(LTooMany$Flight;I)I"⟩, 8) := ⟨⟨by decide +kernel, by decide +kernel⟩, List.mem_of_getElem? (i := 12) (by decide +kernel), List.mem_of_getElem? (i := 314) (by decide +kernel), List.mem_of_getElem? (i := 315) (by decide +kernel)⟩
theorem lw_p15 : lw_okq (⟨"TooMany", "nextBidder", "(LTooMany$Flight;I)I"⟩, 8) := ⟨⟨by decide +kernel, by decide +kernel⟩, List.mem_of_getElem? (i := 12) (by decide +kernel), List.mem_of_getElem? (i := 318) (by decide +kernel), List.mem_of_getElem? (i := 319) (by decide +kernel)⟩
def lw_privs_1 : List (MethodName × Nat) := [(⟨"TooMany", "flightAt", "(I)LTooMany$Flight;"⟩, 8), (⟨"TooMany", "setChange", "(I)I"⟩, 8), (⟨"TooMany", "loadOf", "(LTooMany$Flight;)I"⟩, 8), (⟨"TooMany", "overOf", "(LTooMany$Flight;)I"⟩, 8), (⟨"TooMany", "mustPeople", "(LTooMany$Flight;)I"⟩, 8), (⟨"TooMany", "flyingPeople", "()I"⟩, 8), (⟨"TooMany", "peopleIn", "(I)I"⟩, 8), (⟨"TooMany", "peopleWithWay", "()I"⟩, 8), (⟨"TooMany", "allClaims", "()I"⟩, 8), (⟨"TooMany", "claimOf", "(LTooMany$Party;)I"⟩, 8), (⟨"TooMany", "baseFee", "(I)I"⟩, 8), (⟨"TooMany", "cheapestDeal", "(LTooMany$Flight;I)J"⟩, 8), (⟨"TooMany", "offerDeals", "(IIJ)V"⟩, 8), (⟨"TooMany", "leastDeal", "(II)J"⟩, 8), (⟨"TooMany", "lowestBidders", "(LTooMany$Flight;I)I"⟩, 8), (⟨"TooMany", "nextBidder", "(LTooMany$Flight;I)I"⟩, 8)]
theorem lw_r1 : ∀ q ∈ lw_privs_1, lw_okq q := List.forall_mem_cons.mpr ⟨lw_p0, List.forall_mem_cons.mpr ⟨lw_p1, List.forall_mem_cons.mpr ⟨lw_p2, List.forall_mem_cons.mpr ⟨lw_p3, List.forall_mem_cons.mpr ⟨lw_p4, List.forall_mem_cons.mpr ⟨lw_p5, List.forall_mem_cons.mpr ⟨lw_p6, List.forall_mem_cons.mpr ⟨lw_p7, List.forall_mem_cons.mpr ⟨lw_p8, List.forall_mem_cons.mpr ⟨lw_p9, List.forall_mem_cons.mpr ⟨lw_p10, List.forall_mem_cons.mpr ⟨lw_p11, List.forall_mem_cons.mpr ⟨lw_p12, List.forall_mem_cons.mpr ⟨lw_p13, List.forall_mem_cons.mpr ⟨lw_p14, List.forall_mem_cons.mpr ⟨lw_p15, fun _ h => absurd h List.not_mem_nil⟩⟩⟩⟩⟩⟩⟩⟩⟩⟩⟩⟩⟩⟩⟩⟩
theorem lw_p16 : lw_okq (⟨"TooMany", "highestBid", "(I)I"⟩, 8) := ⟨⟨by decide +kernel, by decide +kernel⟩, List.mem_of_getElem? (i := 12) (by decide +kernel), List.mem_of_getElem? (i := 322) (by decide +kernel), List.mem_of_getElem? (i := 323) (by decide +kernel)⟩
theorem lw_p17 : lw_okq (⟨"TooMany", "leavablePeople", "(LTooMany$Flight;)I"⟩, 8) := ⟨⟨by decide +kernel, by decide +kernel⟩, List.mem_of_getElem? (i := 12) (by decide +kernel), List.mem_of_getElem? (i := 333) (by decide +kernel), List.mem_of_getElem? (i := 334) (by decide +kernel)⟩
theorem lw_p18 : lw_okq (⟨"TooMany", "nextToLeave", "(LTooMany$Flight;)LTooMany$Party;"⟩, 8) := ⟨⟨by decide +kernel, by decide +kernel⟩, List.mem_of_getElem? (i := 12) (by decide +kernel), List.mem_of_getElem? (i := 337) (by decide +kernel), List.mem_of_getElem? (i := 338) (by decide +kernel)⟩
theorem lw_p19 : lw_okq (⟨"TooMany", "partyAt", "(I)LTooMany$Party;"⟩, 8) := ⟨⟨by decide +kernel, by decide +kernel⟩, List.mem_of_getElem? (i := 12) (by decide +kernel), List.mem_of_getElem? (i := 345) (by decide +kernel), List.mem_of_getElem? (i := 346) (by decide +kernel)⟩
theorem lw_p20 : lw_okq (⟨"TooMany", "isWay", "(LTooMany$Party;LTooMany$Flight;LTooMany$Flight;)Z"⟩, 8) := ⟨⟨by decide +kernel, by decide +kernel⟩, List.mem_of_getElem? (i := 12) (by decide +kernel), List.mem_of_getElem? (i := 362) (by decide +kernel), List.mem_of_getElem? (i := 363) (by decide +kernel)⟩
theorem lw_p21 : lw_okq (⟨"TooMany", "addStranded", "(I)V"⟩, 8) := ⟨⟨by decide +kernel, by decide +kernel⟩, List.mem_of_getElem? (i := 12) (by decide +kernel), List.mem_of_getElem? (i := 384) (by decide +kernel), List.mem_of_getElem? (i := 385) (by decide +kernel)⟩
theorem lw_p22 : lw_okq (⟨"TooMany$Mover", "lastTwin", "(LTooMany$Party;)I"⟩, 13) := ⟨⟨by decide +kernel, by decide +kernel⟩, List.mem_of_getElem? (i := 24) (by decide +kernel), List.mem_of_getElem? (i := 392) (by decide +kernel), List.mem_of_getElem? (i := 393) (by decide +kernel)⟩
theorem lw_p23 : lw_okq (⟨"TooMany", "addWays", "(LTooMany$Party;)V"⟩, 8) := ⟨⟨by decide +kernel, by decide +kernel⟩, List.mem_of_getElem? (i := 12) (by decide +kernel), List.mem_of_getElem? (i := 396) (by decide +kernel), List.mem_of_getElem? (i := 397) (by decide +kernel)⟩
theorem lw_p24 : lw_okq (⟨"TooMany$Mover", "worthOf", "(III)J"⟩, 13) := ⟨⟨by decide +kernel, by decide +kernel⟩, List.mem_of_getElem? (i := 24) (by decide +kernel), List.mem_of_getElem? (i := 405) (by decide +kernel), List.mem_of_getElem? (i := 406) (by decide +kernel)⟩
theorem lw_p25 : lw_okq (⟨"TooMany$Mover", "putWay", "(ILTooMany$Flight;LTooMany$Flight;IJ)V"⟩, 13) := ⟨⟨by decide +kernel, by decide +kernel⟩, List.mem_of_getElem? (i := 24) (by decide +kernel), List.mem_of_getElem? (i := 410) (by decide +kernel), List.mem_of_getElem? (i := 411) (by decide +kernel)⟩
theorem lw_p26 : lw_okq (⟨"TooMany$Mover", "choose", "(IJ)V"⟩, 13) := ⟨⟨by decide +kernel, by decide +kernel⟩, List.mem_of_getElem? (i := 24) (by decide +kernel), List.mem_of_getElem? (i := 418) (by decide +kernel), List.mem_of_getElem? (i := 419) (by decide +kernel)⟩
theorem lw_p27 : lw_okq (⟨"TooMany$Mover", "keepIfBetter", "(J)V"⟩, 13) := ⟨⟨by decide +kernel, by decide +kernel⟩, List.mem_of_getElem? (i := 24) (by decide +kernel), List.mem_of_getElem? (i := 422) (by decide +kernel), List.mem_of_getElem? (i := 423) (by decide +kernel)⟩
theorem lw_p28 : lw_okq (⟨"TooMany$Mover", "mayBeat", "(IJ)Z"⟩, 13) := ⟨⟨by decide +kernel, by decide +kernel⟩, List.mem_of_getElem? (i := 24) (by decide +kernel), List.mem_of_getElem? (i := 426) (by decide +kernel), List.mem_of_getElem? (i := 427) (by decide +kernel)⟩
theorem lw_p29 : lw_okq (⟨"TooMany$Mover", "mostWorth", "(I)J"⟩, 13) := ⟨⟨by decide +kernel, by decide +kernel⟩, List.mem_of_getElem? (i := 24) (by decide +kernel), List.mem_of_getElem? (i := 430) (by decide +kernel), List.mem_of_getElem? (i := 431) (by decide +kernel)⟩
theorem lw_p30 : lw_okq (⟨"TooMany$Mover", "fits", "(II)Z"⟩, 13) := ⟨⟨by decide +kernel, by decide +kernel⟩, List.mem_of_getElem? (i := 24) (by decide +kernel), List.mem_of_getElem? (i := 434) (by decide +kernel), List.mem_of_getElem? (i := 435) (by decide +kernel)⟩
theorem lw_p31 : lw_okq (⟨"TooMany$Mover", "twinPlace", "(I)I"⟩, 13) := ⟨⟨by decide +kernel, by decide +kernel⟩, List.mem_of_getElem? (i := 24) (by decide +kernel), List.mem_of_getElem? (i := 438) (by decide +kernel), List.mem_of_getElem? (i := 439) (by decide +kernel)⟩
def lw_privs_2 : List (MethodName × Nat) := [(⟨"TooMany", "highestBid", "(I)I"⟩, 8), (⟨"TooMany", "leavablePeople", "(LTooMany$Flight;)I"⟩, 8), (⟨"TooMany", "nextToLeave", "(LTooMany$Flight;)LTooMany$Party;"⟩, 8), (⟨"TooMany", "partyAt", "(I)LTooMany$Party;"⟩, 8), (⟨"TooMany", "isWay", "(LTooMany$Party;LTooMany$Flight;LTooMany$Flight;)Z"⟩, 8), (⟨"TooMany", "addStranded", "(I)V"⟩, 8), (⟨"TooMany$Mover", "lastTwin", "(LTooMany$Party;)I"⟩, 13), (⟨"TooMany", "addWays", "(LTooMany$Party;)V"⟩, 8), (⟨"TooMany$Mover", "worthOf", "(III)J"⟩, 13), (⟨"TooMany$Mover", "putWay", "(ILTooMany$Flight;LTooMany$Flight;IJ)V"⟩, 13), (⟨"TooMany$Mover", "choose", "(IJ)V"⟩, 13), (⟨"TooMany$Mover", "keepIfBetter", "(J)V"⟩, 13), (⟨"TooMany$Mover", "mayBeat", "(IJ)Z"⟩, 13), (⟨"TooMany$Mover", "mostWorth", "(I)J"⟩, 13), (⟨"TooMany$Mover", "fits", "(II)Z"⟩, 13), (⟨"TooMany$Mover", "twinPlace", "(I)I"⟩, 13)]
theorem lw_r2 : ∀ q ∈ lw_privs_2, lw_okq q := List.forall_mem_cons.mpr ⟨lw_p16, List.forall_mem_cons.mpr ⟨lw_p17, List.forall_mem_cons.mpr ⟨lw_p18, List.forall_mem_cons.mpr ⟨lw_p19, List.forall_mem_cons.mpr ⟨lw_p20, List.forall_mem_cons.mpr ⟨lw_p21, List.forall_mem_cons.mpr ⟨lw_p22, List.forall_mem_cons.mpr ⟨lw_p23, List.forall_mem_cons.mpr ⟨lw_p24, List.forall_mem_cons.mpr ⟨lw_p25, List.forall_mem_cons.mpr ⟨lw_p26, List.forall_mem_cons.mpr ⟨lw_p27, List.forall_mem_cons.mpr ⟨lw_p28, List.forall_mem_cons.mpr ⟨lw_p29, List.forall_mem_cons.mpr ⟨lw_p30, List.forall_mem_cons.mpr ⟨lw_p31, fun _ h => absurd h List.not_mem_nil⟩⟩⟩⟩⟩⟩⟩⟩⟩⟩⟩⟩⟩⟩⟩⟩
theorem lw_p32 : lw_okq (⟨"TooMany$Mover", "betterHasRoom", "(II)Z"⟩, 13) := ⟨⟨by decide +kernel, by decide +kernel⟩, List.mem_of_getElem? (i := 24) (by decide +kernel), List.mem_of_getElem? (i := 442) (by decide +kernel), List.mem_of_getElem? (i := 443) (by decide +kernel)⟩
theorem lw_p33 : lw_okq (⟨"TooMany$Mover", "hasRoom", "(IILTooMany$Flight;)Z"⟩, 13) := ⟨⟨by decide +kernel, by decide +kernel⟩, List.mem_of_getElem? (i := 24) (by decide +kernel), List.mem_of_getElem? (i := 446) (by decide +kernel), List.mem_of_getElem? (i := 447) (by decide +kernel)⟩
theorem lw_p34 : lw_okq (⟨"TooMany$Mover", "fill", "(II)V"⟩, 13) := ⟨⟨by decide +kernel, by decide +kernel⟩, List.mem_of_getElem? (i := 24) (by decide +kernel), List.mem_of_getElem? (i := 450) (by decide +kernel), List.mem_of_getElem? (i := 451) (by decide +kernel)⟩
theorem lw_p35 : lw_okq (⟨"java/lang/Throwable", "fillInStackTrace", "(I)Ljava/lang/Throwable;"⟩, 6) := ⟨⟨by decide +kernel, by decide +kernel⟩, List.mem_of_getElem? (i := 511) (by decide +kernel), List.mem_of_getElem? (i := 509) (by decide +kernel), List.mem_of_getElem? (i := 510) (by decide +kernel)⟩
theorem lw_p36 : lw_okq (⟨"TooManyModel", "isFlight", "(I)Z"⟩, 20) := ⟨⟨by decide +kernel, by decide +kernel⟩, List.mem_of_getElem? (i := 545) (by decide +kernel), List.mem_of_getElem? (i := 627) (by decide +kernel), List.mem_of_getElem? (i := 628) (by decide +kernel)⟩
theorem lw_p37 : lw_okq (⟨"TooManyModel", "load", "(I)I"⟩, 20) := ⟨⟨by decide +kernel, by decide +kernel⟩, List.mem_of_getElem? (i := 545) (by decide +kernel), List.mem_of_getElem? (i := 643) (by decide +kernel), List.mem_of_getElem? (i := 644) (by decide +kernel)⟩
theorem lw_p38 : lw_okq (⟨"TooManyModel", "get", "(II)I"⟩, 20) := ⟨⟨by decide +kernel, by decide +kernel⟩, List.mem_of_getElem? (i := 545) (by decide +kernel), List.mem_of_getElem? (i := 647) (by decide +kernel), List.mem_of_getElem? (i := 648) (by decide +kernel)⟩
theorem lw_p39 : lw_okq (⟨"TooManyModel", "over", "(I)I"⟩, 20) := ⟨⟨by decide +kernel, by decide +kernel⟩, List.mem_of_getElem? (i := 545) (by decide +kernel), List.mem_of_getElem? (i := 651) (by decide +kernel), List.mem_of_getElem? (i := 652) (by decide +kernel)⟩
theorem lw_p40 : lw_okq (⟨"TooManyModel", "of7", "(II)I"⟩, 20) := ⟨⟨by decide +kernel, by decide +kernel⟩, List.mem_of_getElem? (i := 545) (by decide +kernel), List.mem_of_getElem? (i := 655) (by decide +kernel), List.mem_of_getElem? (i := 656) (by decide +kernel)⟩
theorem lw_p41 : lw_okq (⟨"TooManyModel", "isParty", "(I)Z"⟩, 20) := ⟨⟨by decide +kernel, by decide +kernel⟩, List.mem_of_getElem? (i := 545) (by decide +kernel), List.mem_of_getElem? (i := 664) (by decide +kernel), List.mem_of_getElem? (i := 665) (by decide +kernel)⟩
theorem lw_p42 : lw_okq (⟨"TooManyModel", "lateOf", "(I)I"⟩, 20) := ⟨⟨by decide +kernel, by decide +kernel⟩, List.mem_of_getElem? (i := 545) (by decide +kernel), List.mem_of_getElem? (i := 668) (by decide +kernel), List.mem_of_getElem? (i := 669) (by decide +kernel)⟩
theorem lw_p43 : lw_okq (⟨"TooManyModel", "claim", "(I)I"⟩, 20) := ⟨⟨by decide +kernel, by decide +kernel⟩, List.mem_of_getElem? (i := 545) (by decide +kernel), List.mem_of_getElem? (i := 672) (by decide +kernel), List.mem_of_getElem? (i := 673) (by decide +kernel)⟩
theorem lw_p44 : lw_okq (⟨"TooManyModel", "findBest", "(I)I"⟩, 20) := ⟨⟨by decide +kernel, by decide +kernel⟩, List.mem_of_getElem? (i := 545) (by decide +kernel), List.mem_of_getElem? (i := 684) (by decide +kernel), List.mem_of_getElem? (i := 685) (by decide +kernel)⟩
theorem lw_p45 : lw_okq (⟨"TooManyModel", "mayGive", "(II)Z"⟩, 20) := ⟨⟨by decide +kernel, by decide +kernel⟩, List.mem_of_getElem? (i := 545) (by decide +kernel), List.mem_of_getElem? (i := 689) (by decide +kernel), List.mem_of_getElem? (i := 690) (by decide +kernel)⟩
theorem lw_p46 : lw_okq (⟨"TooManyModel", "give", "(II)V"⟩, 20) := ⟨⟨by decide +kernel, by decide +kernel⟩, List.mem_of_getElem? (i := 545) (by decide +kernel), List.mem_of_getElem? (i := 697) (by decide +kernel), List.mem_of_getElem? (i := 698) (by decide +kernel)⟩
theorem lw_p47 : lw_okq (⟨"TooManyModel", "put", "(III)V"⟩, 20) := ⟨⟨by decide +kernel, by decide +kernel⟩, List.mem_of_getElem? (i := 545) (by decide +kernel), List.mem_of_getElem? (i := 701) (by decide +kernel), List.mem_of_getElem? (i := 702) (by decide +kernel)⟩
def lw_privs_3 : List (MethodName × Nat) := [(⟨"TooMany$Mover", "betterHasRoom", "(II)Z"⟩, 13), (⟨"TooMany$Mover", "hasRoom", "(IILTooMany$Flight;)Z"⟩, 13), (⟨"TooMany$Mover", "fill", "(II)V"⟩, 13), (⟨"java/lang/Throwable", "fillInStackTrace", "(I)Ljava/lang/Throwable;"⟩, 6), (⟨"TooManyModel", "isFlight", "(I)Z"⟩, 20), (⟨"TooManyModel", "load", "(I)I"⟩, 20), (⟨"TooManyModel", "get", "(II)I"⟩, 20), (⟨"TooManyModel", "over", "(I)I"⟩, 20), (⟨"TooManyModel", "of7", "(II)I"⟩, 20), (⟨"TooManyModel", "isParty", "(I)Z"⟩, 20), (⟨"TooManyModel", "lateOf", "(I)I"⟩, 20), (⟨"TooManyModel", "claim", "(I)I"⟩, 20), (⟨"TooManyModel", "findBest", "(I)I"⟩, 20), (⟨"TooManyModel", "mayGive", "(II)Z"⟩, 20), (⟨"TooManyModel", "give", "(II)V"⟩, 20), (⟨"TooManyModel", "put", "(III)V"⟩, 20)]
theorem lw_r3 : ∀ q ∈ lw_privs_3, lw_okq q := List.forall_mem_cons.mpr ⟨lw_p32, List.forall_mem_cons.mpr ⟨lw_p33, List.forall_mem_cons.mpr ⟨lw_p34, List.forall_mem_cons.mpr ⟨lw_p35, List.forall_mem_cons.mpr ⟨lw_p36, List.forall_mem_cons.mpr ⟨lw_p37, List.forall_mem_cons.mpr ⟨lw_p38, List.forall_mem_cons.mpr ⟨lw_p39, List.forall_mem_cons.mpr ⟨lw_p40, List.forall_mem_cons.mpr ⟨lw_p41, List.forall_mem_cons.mpr ⟨lw_p42, List.forall_mem_cons.mpr ⟨lw_p43, List.forall_mem_cons.mpr ⟨lw_p44, List.forall_mem_cons.mpr ⟨lw_p45, List.forall_mem_cons.mpr ⟨lw_p46, List.forall_mem_cons.mpr ⟨lw_p47, fun _ h => absurd h List.not_mem_nil⟩⟩⟩⟩⟩⟩⟩⟩⟩⟩⟩⟩⟩⟩⟩⟩
theorem lw_p48 : lw_okq (⟨"TooManyModel", "lateBy", "(III)I"⟩, 20) := ⟨⟨by decide +kernel, by decide +kernel⟩, List.mem_of_getElem? (i := 545) (by decide +kernel), List.mem_of_getElem? (i := 721) (by decide +kernel), List.mem_of_getElem? (i := 722) (by decide +kernel)⟩
theorem lw_p49 : lw_okq (⟨"TooManyModel", "strandedMany", "()I"⟩, 20) := ⟨⟨by decide +kernel, by decide +kernel⟩, List.mem_of_getElem? (i := 545) (by decide +kernel), List.mem_of_getElem? (i := 729) (by decide +kernel), List.mem_of_getElem? (i := 730) (by decide +kernel)⟩
theorem lw_p50 : lw_okq (⟨"TooManyModel", "findWays", "(I)V"⟩, 20) := ⟨⟨by decide +kernel, by decide +kernel⟩, List.mem_of_getElem? (i := 545) (by decide +kernel), List.mem_of_getElem? (i := 737) (by decide +kernel), List.mem_of_getElem? (i := 738) (by decide +kernel)⟩
theorem lw_p51 : lw_okq (⟨"TooManyModel", "goOn", "(III)V"⟩, 20) := ⟨⟨by decide +kernel, by decide +kernel⟩, List.mem_of_getElem? (i := 545) (by decide +kernel), List.mem_of_getElem? (i := 744) (by decide +kernel), List.mem_of_getElem? (i := 745) (by decide +kernel)⟩
theorem lw_p52 : lw_okq (⟨"TooManyModel", "hasRoom", "(II)Z"⟩, 20) := ⟨⟨by decide +kernel, by decide +kernel⟩, List.mem_of_getElem? (i := 545) (by decide +kernel), List.mem_of_getElem? (i := 748) (by decide +kernel), List.mem_of_getElem? (i := 749) (by decide +kernel)⟩
def lw_privs_4 : List (MethodName × Nat) := [(⟨"TooManyModel", "lateBy", "(III)I"⟩, 20), (⟨"TooManyModel", "strandedMany", "()I"⟩, 20), (⟨"TooManyModel", "findWays", "(I)V"⟩, 20), (⟨"TooManyModel", "goOn", "(III)V"⟩, 20), (⟨"TooManyModel", "hasRoom", "(II)Z"⟩, 20)]
theorem lw_r4 : ∀ q ∈ lw_privs_4, lw_okq q := List.forall_mem_cons.mpr ⟨lw_p48, List.forall_mem_cons.mpr ⟨lw_p49, List.forall_mem_cons.mpr ⟨lw_p50, List.forall_mem_cons.mpr ⟨lw_p51, List.forall_mem_cons.mpr ⟨lw_p52, fun _ h => absurd h List.not_mem_nil⟩⟩⟩⟩⟩
def lw_privs : List (MethodName × Nat) := lw_privs_1 ++ (lw_privs_2 ++ (lw_privs_3 ++ (lw_privs_4)))
def lw_tbl : List Cond := k2_sels lw_privs ++ tables_1
theorem lw_privs_ok : ∀ q ∈ lw_privs, lw_okq q := by
  show ∀ q ∈ lw_privs_1 ++ (lw_privs_2 ++ (lw_privs_3 ++ (lw_privs_4))), lw_okq q
  exact List.forall_mem_append.mpr ⟨lw_r1, List.forall_mem_append.mpr ⟨lw_r2, List.forall_mem_append.mpr ⟨lw_r3, lw_r4⟩⟩⟩
end
section
def RX0 : String := "TooMany$Flight"
def TX0 : u_T := fun k => match k with
  | 0 => ("TooMany$Flight", "number", "I", true)
  | 1 => ("TooMany$Flight", "from", "I", true)
  | 2 => ("TooMany$Flight", "to", "I", true)
  | 3 => ("TooMany$Flight", "departs", "I", true)
  | 4 => ("TooMany$Flight", "arrives", "I", true)
  | 5 => ("TooMany$Flight", "seats", "I", true)
  | 6 => ("TooMany$Flight", "miles", "I", true)
  | 7 => ("TooMany$Flight", "isOff", "Z", false)
  | _ => ("TooMany$Flight", "free", "I", false)
def tyX0 : Nat → FieldType := fun k => match k with
  | 0 => .int
  | 1 => .int
  | 2 => .int
  | 3 => .int
  | 4 => .int
  | 5 => .int
  | 6 => .int
  | 7 => .boolean
  | _ => .int
abbrev wsX00 : List Cond := u_ws RX0 TX0 9
theorem nmX0 : ∀ a, a < 9 → ∀ b, b < 9 → a ≠ b → (TX0 a).2.1 ≠ (TX0 b).2.1 := by decide +kernel
theorem tyX0_ok : ∀ k, k < 9 → parseFieldDescriptor (TX0 k).2.2.1 = some (tyX0 k) := by decide +kernel
abbrev cX0_init : ByteArray := prog_2_method_1_code
def yX0_init : MethodName := ⟨RX0, "<init>", "(IIIIIII)V"⟩
def RX1 : String := "TooMany$Mover"
def TX1 : u_T := fun k => match k with
  | 0 => ("TooMany$Mover", "party", "[LTooMany$Party;", true)
  | 1 => ("TooMany$Mover", "turn", "[I", true)
  | 2 => ("TooMany$Mover", "twin", "[I", true)
  | 3 => ("TooMany$Mover", "ways", "[I", true)
  | 4 => ("TooMany$Mover", "pick", "[I", true)
  | 5 => ("TooMany$Mover", "best", "[I", true)
  | 6 => ("TooMany$Mover", "peopleFrom", "[I", true)
  | 7 => ("TooMany$Mover", "first", "[LTooMany$Flight;", true)
  | 8 => ("TooMany$Mover", "second", "[LTooMany$Flight;", true)
  | 9 => ("TooMany$Mover", "place", "[I", true)
  | 10 => ("TooMany$Mover", "worth", "[J", true)
  | 11 => ("TooMany$Mover", "bestSum", "J", false)
  | _ => ("TooMany$Mover", "count", "I", false)
def tyX1 : Nat → FieldType := fun k => match k with
  | 0 => .array (.object "TooMany$Party")
  | 1 => .array .int
  | 2 => .array .int
  | 3 => .array .int
  | 4 => .array .int
  | 5 => .array .int
  | 6 => .array .int
  | 7 => .array (.object "TooMany$Flight")
  | 8 => .array (.object "TooMany$Flight")
  | 9 => .array .int
  | 10 => .array .long
  | 11 => .long
  | _ => .int
abbrev wsX10 : List Cond := u_ws RX1 TX1 13
theorem nmX1 : ∀ a, a < 13 → ∀ b, b < 13 → a ≠ b → (TX1 a).2.1 ≠ (TX1 b).2.1 := by decide +kernel
theorem tyX1_ok : ∀ k, k < 13 → parseFieldDescriptor (TX1 k).2.2.1 = some (tyX1 k) := by decide +kernel
abbrev cX1_init : ByteArray := prog_3_method_1_code
def yX1_init : MethodName := ⟨RX1, "<init>", "()V"⟩
abbrev cX1_begin : ByteArray := prog_3_method_2_code
def yX1_begin : MethodName := ⟨RX1, "begin", "()V"⟩
abbrev cX1_addParty : ByteArray := prog_3_method_3_code
def yX1_addParty : MethodName := ⟨RX1, "addParty", "(LTooMany$Party;I)V"⟩
abbrev cX1_addWay : ByteArray := prog_3_method_4_code
def yX1_addWay : MethodName := ⟨RX1, "addWay", "(LTooMany$Flight;LTooMany$Flight;)V"⟩
abbrev cX1_findBest : ByteArray := prog_3_method_5_code
def yX1_findBest : MethodName := ⟨RX1, "findBest", "()V"⟩
abbrev cX1_giveWays : ByteArray := prog_3_method_6_code
def yX1_giveWays : MethodName := ⟨RX1, "giveWays", "()I"⟩
abbrev cX1_lastTwin : ByteArray := prog_3_method_7_code
def yX1_lastTwin : MethodName := ⟨RX1, "lastTwin", "(LTooMany$Party;)I"⟩
abbrev cX1_worthOf : ByteArray := prog_3_method_8_code
def yX1_worthOf : MethodName := ⟨RX1, "worthOf", "(III)J"⟩
abbrev cX1_putWay : ByteArray := prog_3_method_9_code
def yX1_putWay : MethodName := ⟨RX1, "putWay", "(ILTooMany$Flight;LTooMany$Flight;IJ)V"⟩
abbrev cX1_choose : ByteArray := prog_3_method_10_code
def yX1_choose : MethodName := ⟨RX1, "choose", "(IJ)V"⟩
abbrev cX1_twinPlace : ByteArray := prog_3_method_11_code
def yX1_twinPlace : MethodName := ⟨RX1, "twinPlace", "(I)I"⟩
abbrev cX1_keepIfBetter : ByteArray := prog_3_method_12_code
def yX1_keepIfBetter : MethodName := ⟨RX1, "keepIfBetter", "(J)V"⟩
abbrev cX1_mayBeat : ByteArray := prog_3_method_13_code
def yX1_mayBeat : MethodName := ⟨RX1, "mayBeat", "(IJ)Z"⟩
abbrev cX1_mostWorth : ByteArray := prog_3_method_14_code
def yX1_mostWorth : MethodName := ⟨RX1, "mostWorth", "(I)J"⟩
abbrev cX1_fits : ByteArray := prog_3_method_15_code
def yX1_fits : MethodName := ⟨RX1, "fits", "(II)Z"⟩
abbrev cX1_fill : ByteArray := prog_3_method_16_code
def yX1_fill : MethodName := ⟨RX1, "fill", "(II)V"⟩
abbrev cX1_betterHasRoom : ByteArray := prog_3_method_17_code
def yX1_betterHasRoom : MethodName := ⟨RX1, "betterHasRoom", "(II)Z"⟩
abbrev cX1_hasRoom : ByteArray := prog_3_method_18_code
def yX1_hasRoom : MethodName := ⟨RX1, "hasRoom", "(IILTooMany$Flight;)Z"⟩
def RX2 : String := "TooMany$Party"
def TX2 : u_T := fun k => match k with
  | 0 => ("TooMany$Party", "own", "LTooMany$Flight;", true)
  | 1 => ("TooMany$Party", "size", "I", true)
  | 2 => ("TooMany$Party", "rank", "I", true)
  | 3 => ("TooMany$Party", "bid", "I", true)
  | 4 => ("TooMany$Party", "must", "Z", true)
  | 5 => ("TooMany$Party", "state", "I", false)
  | 6 => ("TooMany$Party", "coin", "I", false)
  | 7 => ("TooMany$Party", "first", "LTooMany$Flight;", false)
  | _ => ("TooMany$Party", "second", "LTooMany$Flight;", false)
def tyX2 : Nat → FieldType := fun k => match k with
  | 0 => .object "TooMany$Flight"
  | 1 => .int
  | 2 => .int
  | 3 => .int
  | 4 => .boolean
  | 5 => .int
  | 6 => .int
  | 7 => .object "TooMany$Flight"
  | _ => .object "TooMany$Flight"
abbrev wsX20 : List Cond := u_ws RX2 TX2 9
theorem nmX2 : ∀ a, a < 9 → ∀ b, b < 9 → a ≠ b → (TX2 a).2.1 ≠ (TX2 b).2.1 := by decide +kernel
theorem tyX2_ok : ∀ k, k < 9 → parseFieldDescriptor (TX2 k).2.2.1 = some (tyX2 k) := by decide +kernel
abbrev cX2_init : ByteArray := prog_4_method_1_code
def yX2_init : MethodName := ⟨RX2, "<init>", "(LTooMany$Flight;IIIZ)V"⟩
abbrev cX2_fliesOn : ByteArray := prog_4_method_2_code
def yX2_fliesOn : MethodName := ⟨RX2, "fliesOn", "(LTooMany$Flight;)Z"⟩
abbrev cX2_wouldGive : ByteArray := prog_4_method_3_code
def yX2_wouldGive : MethodName := ⟨RX2, "wouldGive", "(LTooMany$Flight;)Z"⟩
abbrev cX2_isStranded : ByteArray := prog_4_method_4_code
def yX2_isStranded : MethodName := ⟨RX2, "isStranded", "()Z"⟩
abbrev cX2_giveUp : ByteArray := prog_4_method_5_code
def yX2_giveUp : MethodName := ⟨RX2, "giveUp", "(II)V"⟩
abbrev cX2_takeWay : ByteArray := prog_4_method_6_code
def yX2_takeWay : MethodName := ⟨RX2, "takeWay", "(LTooMany$Flight;LTooMany$Flight;)V"⟩
abbrev cX2_flyAgain : ByteArray := prog_4_method_7_code
def yX2_flyAgain : MethodName := ⟨RX2, "flyAgain", "()V"⟩
abbrev cX2_lateBy : ByteArray := prog_4_method_8_code
def yX2_lateBy : MethodName := ⟨RX2, "lateBy", "(LTooMany$Flight;LTooMany$Flight;)I"⟩
abbrev cX2_lateByWay : ByteArray := prog_4_method_9_code
def yX2_lateByWay : MethodName := ⟨RX2, "lateByWay", "()I"⟩
def RX3 : String := "TooMany"
def TX3 : u_T := fun k => match k with
  | 0 => ("TooMany", "flights", "[LTooMany$Flight;", true)
  | 1 => ("TooMany", "parties", "[LTooMany$Party;", true)
  | 2 => ("TooMany", "fees", "[I", true)
  | 3 => ("TooMany", "cheapest", "[J", true)
  | 4 => ("TooMany", "mover", "LTooMany$Mover;", true)
  | 5 => ("TooMany", "flightCount", "I", false)
  | 6 => ("TooMany", "partyCount", "I", false)
  | _ => ("TooMany", "change", "I", false)
def tyX3 : Nat → FieldType := fun k => match k with
  | 0 => .array (.object "TooMany$Flight")
  | 1 => .array (.object "TooMany$Party")
  | 2 => .array .int
  | 3 => .array .long
  | 4 => .object "TooMany$Mover"
  | 5 => .int
  | 6 => .int
  | _ => .int
abbrev wsX30 : List Cond := u_ws RX3 TX3 8
theorem nmX3 : ∀ a, a < 8 → ∀ b, b < 8 → a ≠ b → (TX3 a).2.1 ≠ (TX3 b).2.1 := by decide +kernel
theorem tyX3_ok : ∀ k, k < 8 → parseFieldDescriptor (TX3 k).2.2.1 = some (tyX3 k) := by decide +kernel
abbrev cX3_init : ByteArray := prog_1_method_1_code
def yX3_init : MethodName := ⟨RX3, "<init>", "()V"⟩
abbrev cX3_flight : ByteArray := prog_1_method_2_code
def yX3_flight : MethodName := ⟨RX3, "flight", "(IIIIII)I"⟩
abbrev cX3_off : ByteArray := prog_1_method_3_code
def yX3_off : MethodName := ⟨RX3, "off", "(IZ)Z"⟩
abbrev cX3_party : ByteArray := prog_1_method_4_code
def yX3_party : MethodName := ⟨RX3, "party", "(IIIIZ)I"⟩
abbrev cX3_set : ByteArray := prog_1_method_5_code
def yX3_set : MethodName := ⟨RX3, "set", "(II)I"⟩
abbrev cX3_told : ByteArray := prog_1_method_6_code
def yX3_told : MethodName := ⟨RX3, "told", "(II)I"⟩
abbrev cX3_of : ByteArray := prog_1_method_7_code
def yX3_of : MethodName := ⟨RX3, "of", "(II)I"⟩
abbrev cX3_count : ByteArray := prog_1_method_8_code
def yX3_count : MethodName := ⟨RX3, "count", "(I)I"⟩
abbrev cX3_cost : ByteArray := prog_1_method_9_code
def yX3_cost : MethodName := ⟨RX3, "cost", "(I)I"⟩
abbrev cX3_buy : ByteArray := prog_1_method_10_code
def yX3_buy : MethodName := ⟨RX3, "buy", "(I)I"⟩
abbrev cX3_rounds : ByteArray := prog_1_method_11_code
def yX3_rounds : MethodName := ⟨RX3, "rounds", "(III)I"⟩
abbrev cX3_leave : ByteArray := prog_1_method_12_code
def yX3_leave : MethodName := ⟨RX3, "leave", "(I)I"⟩
abbrev cX3_back : ByteArray := prog_1_method_13_code
def yX3_back : MethodName := ⟨RX3, "back", "(I)Z"⟩
abbrev cX3_late : ByteArray := prog_1_method_14_code
def yX3_late : MethodName := ⟨RX3, "late", "(III)I"⟩
abbrev cX3_stranded : ByteArray := prog_1_method_15_code
def yX3_stranded : MethodName := ⟨RX3, "stranded", "()I"⟩
abbrev cX3_move : ByteArray := prog_1_method_16_code
def yX3_move : MethodName := ⟨RX3, "move", "()I"⟩
abbrev cX3_undo : ByteArray := prog_1_method_17_code
def yX3_undo : MethodName := ⟨RX3, "undo", "()I"⟩
abbrev cX3_within : ByteArray := prog_1_method_18_code
def yX3_within : MethodName := ⟨RX3, "within", "(III)Z"⟩
abbrev cX3_has : ByteArray := prog_1_method_19_code
def yX3_has : MethodName := ⟨RX3, "has", "(JI)Z"⟩
abbrev cX3_flightAt : ByteArray := prog_1_method_20_code
def yX3_flightAt : MethodName := ⟨RX3, "flightAt", "(I)LTooMany$Flight;"⟩
abbrev cX3_partyAt : ByteArray := prog_1_method_21_code
def yX3_partyAt : MethodName := ⟨RX3, "partyAt", "(I)LTooMany$Party;"⟩
abbrev cX3_numberOf : ByteArray := prog_1_method_22_code
def yX3_numberOf : MethodName := ⟨RX3, "numberOf", "(LTooMany$Flight;)I"⟩
abbrev cX3_isOffFlight : ByteArray := prog_1_method_23_code
def yX3_isOffFlight : MethodName := ⟨RX3, "isOffFlight", "(LTooMany$Flight;)Z"⟩
abbrev cX3_setChange : ByteArray := prog_1_method_24_code
def yX3_setChange : MethodName := ⟨RX3, "setChange", "(I)I"⟩
abbrev cX3_loadOf : ByteArray := prog_1_method_25_code
def yX3_loadOf : MethodName := ⟨RX3, "loadOf", "(LTooMany$Flight;)I"⟩
abbrev cX3_overOf : ByteArray := prog_1_method_26_code
def yX3_overOf : MethodName := ⟨RX3, "overOf", "(LTooMany$Flight;)I"⟩
abbrev cX3_mustPeople : ByteArray := prog_1_method_27_code
def yX3_mustPeople : MethodName := ⟨RX3, "mustPeople", "(LTooMany$Flight;)I"⟩
abbrev cX3_flyingPeople : ByteArray := prog_1_method_28_code
def yX3_flyingPeople : MethodName := ⟨RX3, "flyingPeople", "()I"⟩
abbrev cX3_peopleIn : ByteArray := prog_1_method_29_code
def yX3_peopleIn : MethodName := ⟨RX3, "peopleIn", "(I)I"⟩
abbrev cX3_peopleWithWay : ByteArray := prog_1_method_30_code
def yX3_peopleWithWay : MethodName := ⟨RX3, "peopleWithWay", "()I"⟩
abbrev cX3_allClaims : ByteArray := prog_1_method_31_code
def yX3_allClaims : MethodName := ⟨RX3, "allClaims", "()I"⟩
abbrev cX3_claimOf : ByteArray := prog_1_method_32_code
def yX3_claimOf : MethodName := ⟨RX3, "claimOf", "(LTooMany$Party;)I"⟩
abbrev cX3_baseFee : ByteArray := prog_1_method_33_code
def yX3_baseFee : MethodName := ⟨RX3, "baseFee", "(I)I"⟩
abbrev cX3_cheapestDeal : ByteArray := prog_1_method_34_code
def yX3_cheapestDeal : MethodName := ⟨RX3, "cheapestDeal", "(LTooMany$Flight;I)J"⟩
abbrev cX3_offerDeals : ByteArray := prog_1_method_35_code
def yX3_offerDeals : MethodName := ⟨RX3, "offerDeals", "(IIJ)V"⟩
abbrev cX3_leastDeal : ByteArray := prog_1_method_36_code
def yX3_leastDeal : MethodName := ⟨RX3, "leastDeal", "(II)J"⟩
abbrev cX3_coinOfDeal : ByteArray := prog_1_method_37_code
def yX3_coinOfDeal : MethodName := ⟨RX3, "coinOfDeal", "(J)I"⟩
abbrev cX3_lowestBidders : ByteArray := prog_1_method_38_code
def yX3_lowestBidders : MethodName := ⟨RX3, "lowestBidders", "(LTooMany$Flight;I)I"⟩
abbrev cX3_nextBidder : ByteArray := prog_1_method_39_code
def yX3_nextBidder : MethodName := ⟨RX3, "nextBidder", "(LTooMany$Flight;I)I"⟩
abbrev cX3_highestBid : ByteArray := prog_1_method_40_code
def yX3_highestBid : MethodName := ⟨RX3, "highestBid", "(I)I"⟩
abbrev cX3_firstOffer : ByteArray := prog_1_method_41_code
def yX3_firstOffer : MethodName := ⟨RX3, "firstOffer", "(III)I"⟩
abbrev cX3_leavablePeople : ByteArray := prog_1_method_42_code
def yX3_leavablePeople : MethodName := ⟨RX3, "leavablePeople", "(LTooMany$Flight;)I"⟩
abbrev cX3_nextToLeave : ByteArray := prog_1_method_43_code
def yX3_nextToLeave : MethodName := ⟨RX3, "nextToLeave", "(LTooMany$Flight;)LTooMany$Party;"⟩
abbrev cX3_isWay : ByteArray := prog_1_method_44_code
def yX3_isWay : MethodName := ⟨RX3, "isWay", "(LTooMany$Party;LTooMany$Flight;LTooMany$Flight;)Z"⟩
abbrev cX3_addStranded : ByteArray := prog_1_method_45_code
def yX3_addStranded : MethodName := ⟨RX3, "addStranded", "(I)V"⟩
abbrev cX3_addWays : ByteArray := prog_1_method_46_code
def yX3_addWays : MethodName := ⟨RX3, "addWays", "(LTooMany$Party;)V"⟩
def RX4 : String := "TooManyModel"
def TX4 : u_T := fun k => match k with
  | 0 => ("TooManyModel", "flight", "[I", true)
  | 1 => ("TooManyModel", "flights", "I", false)
  | 2 => ("TooManyModel", "party", "[I", true)
  | 3 => ("TooManyModel", "parties", "I", false)
  | 4 => ("TooManyModel", "numbers", "[I", true)
  | 5 => ("TooManyModel", "thrown", "I", false)
  | 6 => ("TooManyModel", "costs", "[I", true)
  | 7 => ("TooManyModel", "bits", "[I", true)
  | 8 => ("TooManyModel", "left", "[I", true)
  | 9 => ("TooManyModel", "leftMany", "I", false)
  | 10 => ("TooManyModel", "ways", "[I", true)
  | 11 => ("TooManyModel", "lates", "[I", true)
  | 12 => ("TooManyModel", "wayMany", "[I", true)
  | 13 => ("TooManyModel", "leastLate", "[I", true)
  | 14 => ("TooManyModel", "most", "[I", true)
  | 15 => ("TooManyModel", "loads", "[I", true)
  | 16 => ("TooManyModel", "tryWay", "[I", true)
  | 17 => ("TooManyModel", "bestWay", "[I", true)
  | 18 => ("TooManyModel", "bestPeople", "I", false)
  | _ => ("TooManyModel", "bestLate", "I", false)
def tyX4 : Nat → FieldType := fun k => match k with
  | 0 => .array .int
  | 1 => .int
  | 2 => .array .int
  | 3 => .int
  | 4 => .array .int
  | 5 => .int
  | 6 => .array .int
  | 7 => .array .int
  | 8 => .array .int
  | 9 => .int
  | 10 => .array .int
  | 11 => .array .int
  | 12 => .array .int
  | 13 => .array .int
  | 14 => .array .int
  | 15 => .array .int
  | 16 => .array .int
  | 17 => .array .int
  | 18 => .int
  | _ => .int
abbrev wsX40 : List Cond := u_ws RX4 TX4 20
theorem nmX4 : ∀ a, a < 20 → ∀ b, b < 20 → a ≠ b → (TX4 a).2.1 ≠ (TX4 b).2.1 := by decide +kernel
theorem tyX4_ok : ∀ k, k < 20 → parseFieldDescriptor (TX4 k).2.2.1 = some (tyX4 k) := by decide +kernel
abbrev cX4_init : ByteArray := prog_6_method_1_code
def yX4_init : MethodName := ⟨RX4, "<init>", "()V"⟩
abbrev cX4_thrown : ByteArray := prog_6_method_2_code
def yX4_thrown : MethodName := ⟨RX4, "thrown", "()I"⟩
abbrev cX4_in : ByteArray := prog_6_method_3_code
def yX4_in : MethodName := ⟨RX4, "in", "(III)Z"⟩
abbrev cX4_isFlight : ByteArray := prog_6_method_4_code
def yX4_isFlight : MethodName := ⟨RX4, "isFlight", "(I)Z"⟩
abbrev cX4_isParty : ByteArray := prog_6_method_5_code
def yX4_isParty : MethodName := ⟨RX4, "isParty", "(I)Z"⟩
abbrev cX4_get : ByteArray := prog_6_method_6_code
def yX4_get : MethodName := ⟨RX4, "get", "(II)I"⟩
abbrev cX4_put : ByteArray := prog_6_method_7_code
def yX4_put : MethodName := ⟨RX4, "put", "(III)V"⟩
abbrev cX4_of7 : ByteArray := prog_6_method_8_code
def yX4_of7 : MethodName := ⟨RX4, "of7", "(II)I"⟩
abbrev cX4_flight : ByteArray := prog_6_method_9_code
def yX4_flight : MethodName := ⟨RX4, "flight", "(IIIIII)I"⟩
abbrev cX4_off : ByteArray := prog_6_method_10_code
def yX4_off : MethodName := ⟨RX4, "off", "(IZ)Z"⟩
abbrev cX4_party : ByteArray := prog_6_method_11_code
def yX4_party : MethodName := ⟨RX4, "party", "(IIIIZ)I"⟩
abbrev cX4_set : ByteArray := prog_6_method_12_code
def yX4_set : MethodName := ⟨RX4, "set", "(II)I"⟩
abbrev cX4_load : ByteArray := prog_6_method_13_code
def yX4_load : MethodName := ⟨RX4, "load", "(I)I"⟩
abbrev cX4_over : ByteArray := prog_6_method_14_code
def yX4_over : MethodName := ⟨RX4, "over", "(I)I"⟩
abbrev cX4_told : ByteArray := prog_6_method_15_code
def yX4_told : MethodName := ⟨RX4, "told", "(II)I"⟩
abbrev cX4_lateBy : ByteArray := prog_6_method_16_code
def yX4_lateBy : MethodName := ⟨RX4, "lateBy", "(III)I"⟩
abbrev cX4_lateOf : ByteArray := prog_6_method_17_code
def yX4_lateOf : MethodName := ⟨RX4, "lateOf", "(I)I"⟩
abbrev cX4_claim : ByteArray := prog_6_method_18_code
def yX4_claim : MethodName := ⟨RX4, "claim", "(I)I"⟩
abbrev cX4_of : ByteArray := prog_6_method_19_code
def yX4_of : MethodName := ⟨RX4, "of", "(II)I"⟩
abbrev cX4_count : ByteArray := prog_6_method_20_code
def yX4_count : MethodName := ⟨RX4, "count", "(I)I"⟩
abbrev cX4_mayGive : ByteArray := prog_6_method_21_code
def yX4_mayGive : MethodName := ⟨RX4, "mayGive", "(II)Z"⟩
abbrev cX4_findBest : ByteArray := prog_6_method_22_code
def yX4_findBest : MethodName := ⟨RX4, "findBest", "(I)I"⟩
abbrev cX4_cost : ByteArray := prog_6_method_23_code
def yX4_cost : MethodName := ⟨RX4, "cost", "(I)I"⟩
abbrev cX4_give : ByteArray := prog_6_method_24_code
def yX4_give : MethodName := ⟨RX4, "give", "(II)V"⟩
abbrev cX4_buy : ByteArray := prog_6_method_25_code
def yX4_buy : MethodName := ⟨RX4, "buy", "(I)I"⟩
abbrev cX4_rounds : ByteArray := prog_6_method_26_code
def yX4_rounds : MethodName := ⟨RX4, "rounds", "(III)I"⟩
abbrev cX4_leave : ByteArray := prog_6_method_27_code
def yX4_leave : MethodName := ⟨RX4, "leave", "(I)I"⟩
abbrev cX4_back : ByteArray := prog_6_method_28_code
def yX4_back : MethodName := ⟨RX4, "back", "(I)Z"⟩
abbrev cX4_late : ByteArray := prog_6_method_29_code
def yX4_late : MethodName := ⟨RX4, "late", "(III)I"⟩
abbrev cX4_findWays : ByteArray := prog_6_method_30_code
def yX4_findWays : MethodName := ⟨RX4, "findWays", "(I)V"⟩
abbrev cX4_hasRoom : ByteArray := prog_6_method_31_code
def yX4_hasRoom : MethodName := ⟨RX4, "hasRoom", "(II)Z"⟩
abbrev cX4_goOn : ByteArray := prog_6_method_32_code
def yX4_goOn : MethodName := ⟨RX4, "goOn", "(III)V"⟩
abbrev cX4_strandedMany : ByteArray := prog_6_method_33_code
def yX4_strandedMany : MethodName := ⟨RX4, "strandedMany", "()I"⟩
abbrev cX4_stranded : ByteArray := prog_6_method_34_code
def yX4_stranded : MethodName := ⟨RX4, "stranded", "()I"⟩
abbrev cX4_move : ByteArray := prog_6_method_35_code
def yX4_move : MethodName := ⟨RX4, "move", "()I"⟩
abbrev cX4_undo : ByteArray := prog_6_method_36_code
def yX4_undo : MethodName := ⟨RX4, "undo", "()I"⟩
def RJ9 : String := "java/lang/Math"
def TJ9 : u_T := fun k => match k with
  | _ => ("", "", "", false)
def tyJ9 : Nat → FieldType := fun k => match k with
  | _ => .int
abbrev wsJ90 : List Cond := u_ws RJ9 TJ9 0
theorem nmJ9 : ∀ a, a < 0 → ∀ b, b < 0 → a ≠ b → (TJ9 a).2.1 ≠ (TJ9 b).2.1 := by decide +kernel
theorem tyJ9_ok : ∀ k, k < 0 → parseFieldDescriptor (TJ9 k).2.2.1 = some (tyJ9 k) := by decide +kernel
abbrev cJ9_max_7cf53 : ByteArray := prog_8_method_65_code
def yJ9_max_7cf53 : MethodName := ⟨RJ9, "max", "(II)I"⟩
abbrev cJ9_min_7cf53 : ByteArray := prog_8_method_69_code
def yJ9_min_7cf53 : MethodName := ⟨RJ9, "min", "(II)I"⟩
def RJ0 : String := "java/lang/String"
def TJ0 : u_T := fun k => match k with
  | _ => ("", "", "", false)
def tyJ0 : Nat → FieldType := fun k => match k with
  | _ => .int
abbrev wsJ00 : List Cond := u_ws RJ0 TJ0 0
theorem nmJ0 : ∀ a, a < 0 → ∀ b, b < 0 → a ≠ b → (TJ0 a).2.1 ≠ (TJ0 b).2.1 := by decide +kernel
theorem tyJ0_ok : ∀ k, k < 0 → parseFieldDescriptor (TJ0 k).2.2.1 = some (tyJ0 k) := by decide +kernel
def RL : String := "TooManyLaw"
abbrev cL_of : ByteArray := method_3_code
def yL_of : MethodName := ⟨RL, "of", "(LTooMany;II[J)I"⟩
abbrev cL_law : ByteArray := code
def yL_law : MethodName := ⟨RL, "law", "([I)Z"⟩
abbrev vwCl : List vw_C := [(RX0, TX0, 9), (RX1, TX1, 13), (RX2, TX2, 9), (RX3, TX3, 8), (RX4, TX4, 20)]
end
section
/-! THE WORLD: every cell that the law makes has a NAME (a number); a state is: the address of each name (ad), which names there are (dm), and what their slots hold: ints (a), longs (b), references as names (r). -/
def gd : List Cond := lw_tbl.filter goodWord
theorem gd_of {w : Cond} (h : w ∈ lw_tbl) (hg : goodWord w = true) : w ∈ gd := List.mem_filter.mpr ⟨h, hg⟩
theorem gd_1 {w : Cond} (i : Nat) (h : tables_1_1[i]? = some w) (hg : goodWord w = true) : w ∈ gd := gd_of (List.mem_append_right _ (List.mem_append_left _ (List.mem_of_getElem? h))) hg
theorem gd_2 {w : Cond} (i : Nat) (h : tables_1_2[i]? = some w) (hg : goodWord w = true) : w ∈ gd := gd_of (List.mem_append_right _ (List.mem_append_right _ (List.mem_append_left _ (List.mem_of_getElem? h)))) hg
theorem gd_3 {w : Cond} (i : Nat) (h : tables_1_3[i]? = some w) (hg : goodWord w = true) : w ∈ gd := gd_of (List.mem_append_right _ (List.mem_append_right _ (List.mem_append_right _ (List.mem_append_left _ (List.mem_of_getElem? h))))) hg
theorem gd_4 {w : Cond} (i : Nat) (h : tables_1_4[i]? = some w) (hg : goodWord w = true) : w ∈ gd := gd_of (List.mem_append_right _ (List.mem_append_right _ (List.mem_append_right _ (List.mem_append_right _ (List.mem_of_getElem? h))))) hg
theorem gd_s {w : Cond} (i : Nat) (h : (k2_sels lw_privs)[i]? = some w) (hg : goodWord w = true) : w ∈ gd := gd_of (List.mem_append_left _ (List.mem_of_getElem? h)) hg
theorem gd_good : ∀ w ∈ gd, (w.onTables && w.keeps) = true ∨ ∃ ty, w = .arrayClass ty := fun _ h => good_of_word (List.mem_filter.mp h).2
/-- kinds of slots: 0 int, 1 long, 2 a reference, n + 3 the reference to the name n, for ever -/
def kds : Nat → List Nat
  | 0 => [0, 0, 0, 0, 0, 0, 0, 0, 0]
  | 1 => [9, 10, 11, 12, 13, 14, 15, 16, 17, 18, 19, 1, 0]
  | 2 => [2, 0, 0, 0, 0, 0, 0, 2, 2]
  | 3 => [4, 5, 6, 7, 8, 0, 0, 0]
  | _ => [104, 0, 105, 0, 106, 0, 107, 108, 109, 0, 110, 111, 112, 113, 114, 115, 116, 117, 0, 0]
/-- of a name: an object of a class, or a row of a kind (0 int, 1 long, 2 flights, 3 parties) and a length -/
def lyX : List (Nat ⊕ Nat × Nat) := [.inl 3, .inr (2, 8), .inr (3, 20), .inr (0, 3), .inr (1, 121), .inl 1, .inr (3, 6), .inr (0, 6), .inr (0, 6), .inr (0, 6), .inr (0, 6), .inr (0, 6), .inr (0, 7), .inr (2, 72), .inr (2, 72), .inr (0, 72), .inr (1, 72)]
def lyM : List (Nat ⊕ Nat × Nat) := [.inl 4, .inr (0, 56), .inr (0, 180), .inr (0, 4), .inr (0, 121), .inr (0, 121), .inr (0, 6), .inr (0, 432), .inr (0, 432), .inr (0, 6), .inr (0, 6), .inr (0, 8), .inr (0, 8), .inr (0, 6), .inr (0, 6)]
def ly (n : Nat) : Nat ⊕ Nat × Nat := if n < 20 then lyX.getD n (.inr (0, 0)) else if n < 30 then .inl 0 else if n < 100 then .inl 2 else if n < 120 then lyM.getD (n - 100) (.inr (0, 0)) else .inr (1, 1)
theorem ly_F {i : Nat} (h : i < 8) : ly (20 + i) = .inl 0 := by
  unfold ly
  rw [if_neg (by omega), if_pos (by omega)]
theorem ly_P {j : Nat} (h : j < 20) : ly (30 + j) = .inl 2 := by
  unfold ly
  rw [if_neg (by omega), if_neg (by omega), if_pos (by omega)]
abbrev GM : Type := va_G × ClassId × ClassId × ClassId × ClassId
def tysG (g : GM) : List (ClassId × FieldType) := [(g.2.1, .int), (g.2.2.1, .long), (g.2.2.2.1, .object RX0), (g.2.2.2.2, .object RX2)]
def vl (ad : Nat → Nat) (a : Nat → Int32) (b : Nat → Int64) (r : Nat → Option Nat) (k : Nat) : Nat → Value
  | 0 => .int (a k)
  | 1 => .long (b k)
  | 2 => va_rf ((r k).map ad)
  | n + 3 => .ref (ad n)
def vls (ad : Nat → Nat) (a : Nat → Int32) (b : Nat → Int64) (r : Nat → Option Nat) : Nat → List Nat → List Value
  | _, [] => []
  | k, t :: ts => vl ad a b r k t :: vls ad a b r (k + 1) ts
theorem vls_len {ad : Nat → Nat} {a : Nat → Int32} {b : Nat → Int64} {r : Nat → Option Nat} : ∀ (ts : List Nat) (k : Nat), (vls ad a b r k ts).length = ts.length
  | [], _ => rfl
  | t :: ts, k => by simp [vls, vls_len ts]
theorem vls_get {ad : Nat → Nat} {a : Nat → Int32} {b : Nat → Int64} {r : Nat → Option Nat} : ∀ (ts : List Nat) (k j t : Nat), ts[j]? = some t → (vls ad a b r k ts)[j]? = some (vl ad a b r (k + j) t)
  | [], _, j, t, h => by simp at h
  | t0 :: ts, k, 0, t, h => by
    simp at h
    subst h
    simp [vls]
  | t0 :: ts, k, j + 1, t, h => by
    simp at h
    have h1 := vls_get (ad := ad) (a := a) (b := b) (r := r) ts (k + 1) j t h
    simp only [vls, List.getElem?_cons_succ]
    rw [h1, show k + 1 + j = k + (j + 1) by omega]
/-- one slot written -/
theorem vls_set {ad : Nat → Nat} {a a' : Nat → Int32} {b b' : Nat → Int64} {r r' : Nat → Option Nat} {v : Value} (ts : List Nat) (k j t : Nat) (hj : ts[j]? = some t) (hv : vl ad a' b' r' (k + j) t = v) (ho : ∀ i u, i ≠ k + j → vl ad a b r i u = vl ad a' b' r' i u) : (vls ad a b r k ts).set j v = vls ad a' b' r' k ts := by
  apply List.ext_getElem?
  intro i
  by_cases hi : i = j
  · subst hi
    rw [List.getElem?_set_self (by rw [vls_len]; exact (List.getElem?_eq_some_iff.mp hj).1), vls_get ts k i t hj, hv]
  · rw [List.getElem?_set_ne (Ne.symm hi)]
    cases h : ts[i]? with
    | none =>
      have hl : ts.length ≤ i := List.getElem?_eq_none_iff.mp h
      rw [List.getElem?_eq_none (by rw [vls_len]; exact hl), List.getElem?_eq_none (by rw [vls_len]; exact hl)]
    | some u =>
      rw [vls_get ts k i u h, vls_get ts k i u h, ho (k + i) u (by omega)]
/-- the cell of a name -/
def ce (g : GM) (ad : Nat → Nat) (a : Nat → Nat → Int32) (b : Nat → Nat → Int64) (r : Nat → Nat → Option Nat) (n : Nat) : va_E := match ly n with
  | .inl ci => .inr (ci, vls ad (a n) (b n) (r n) 0 (kds ci))
  | .inr (0, len) => .inl (g.2.1, len, .inl (a n))
  | .inr (1, len) => .inl (g.2.2.1, len, .inr (.inl (b n)))
  | .inr (2, len) => .inl (g.2.2.2.1, len, .inr (.inr (.inr (.inr (fun k => (r n k).map ad)))))
  | .inr (_ + 3, len) => .inl (g.2.2.2.2, len, .inr (.inr (.inr (.inr (fun k => (r n k).map ad)))))
theorem ce_o {g : GM} {ad : Nat → Nat} {a : Nat → Nat → Int32} {b : Nat → Nat → Int64} {r : Nat → Nat → Option Nat} {n ci : Nat} (h : ly n = .inl ci) : ce g ad a b r n = .inr (ci, vls ad (a n) (b n) (r n) 0 (kds ci)) := by unfold ce; rw [h]
theorem ce_i {g : GM} {ad : Nat → Nat} {a : Nat → Nat → Int32} {b : Nat → Nat → Int64} {r : Nat → Nat → Option Nat} {n len : Nat} (h : ly n = .inr (0, len)) : ce g ad a b r n = .inl (g.2.1, len, .inl (a n)) := by unfold ce; rw [h]
theorem ce_l {g : GM} {ad : Nat → Nat} {a : Nat → Nat → Int32} {b : Nat → Nat → Int64} {r : Nat → Nat → Option Nat} {n len : Nat} (h : ly n = .inr (1, len)) : ce g ad a b r n = .inl (g.2.2.1, len, .inr (.inl (b n))) := by unfold ce; rw [h]
theorem ce_f {g : GM} {ad : Nat → Nat} {a : Nat → Nat → Int32} {b : Nat → Nat → Int64} {r : Nat → Nat → Option Nat} {n len : Nat} (h : ly n = .inr (2, len)) : ce g ad a b r n = .inl (g.2.2.2.1, len, .inr (.inr (.inr (.inr (fun k => (r n k).map ad))))) := by unfold ce; rw [h]
theorem ce_p {g : GM} {ad : Nat → Nat} {a : Nat → Nat → Int32} {b : Nat → Nat → Int64} {r : Nat → Nat → Option Nat} {n len : Nat} (h : ly n = .inr (3, len)) : ce g ad a b r n = .inl (g.2.2.2.2, len, .inr (.inr (.inr (.inr (fun k => (r n k).map ad))))) := by unfold ce; rw [h]
/-- a cell depends on its own name's slots alone -/
theorem ce_cong {g : GM} {ad : Nat → Nat} {a a' : Nat → Nat → Int32} {b b' : Nat → Nat → Int64} {r r' : Nat → Nat → Option Nat} {n : Nat} (h1 : a n = a' n) (h2 : b n = b' n) (h3 : r n = r' n) : ce g ad a b r n = ce g ad a' b' r' n := by
  unfold ce
  rw [h1, h2, h3]
def Wd (g : GM) (bs : Nat) (ad : Nat → Nat) (dm : Nat → Bool) (a : Nat → Nat → Int32) (b : Nat → Nat → Int64) (r : Nat → Nat → Option Nat) (H : Heap) : Prop :=
  bs ≤ H.size ∧ (∀ n, dm n = true → bs ≤ ad n ∧ va_at g.1 vwCl (ad n, ce g ad a b r n) H) ∧ ∀ n k, dm n = true → dm k = true → ad n = ad k → n = k
/-- one slot of one name -/
def u2 {α : Type} (f : Nat → Nat → α) (n k : Nat) (v : α) : Nat → Nat → α := fun i j => if i = n then (if j = k then v else f i j) else f i j
theorem u2_s {α : Type} {f : Nat → Nat → α} {n k : Nat} {v : α} : u2 f n k v n k = v := by simp [u2]
theorem u2_n {α : Type} {f : Nat → Nat → α} {n k i : Nat} {v : α} (h : i ≠ n) : u2 f n k v i = f i := by
  funext j
  simp [u2, h]
theorem u2_k {α : Type} {f : Nat → Nat → α} {n k j : Nat} {v : α} (h : j ≠ k) (i : Nat) : u2 f n k v i j = f i j := by
  simp [u2, h]
/-- the world behind a store into the cell of n -/
theorem Wd.st {g : GM} {bs : Nat} {ad : Nat → Nat} {dm : Nat → Bool} {a a' : Nat → Nat → Int32} {b b' : Nat → Nat → Int64} {r r' : Nat → Nat → Option Nat} {H H1 : Heap} {n : Nat} (h : Wd g bs ad dm a b r H) (hn : dm n = true) (hz : H1.size = H.size) (ho : ∀ q, q ≠ ad n → H1[q]? = H[q]?) (hc : va_at g.1 vwCl (ad n, ce g ad a' b' r' n) H1) (hs : ∀ i, i ≠ n → a i = a' i ∧ b i = b' i ∧ r i = r' i) : Wd g bs ad dm a' b' r' H1 := by
  refine ⟨by rw [hz]; exact h.1, fun i hi => ⟨(h.2.1 i hi).1, ?_⟩, h.2.2⟩
  by_cases e : i = n
  · subst e
    exact hc
  · obtain ⟨h1, h2, h3⟩ := hs i e
    rw [← ce_cong h1 h2 h3]
    exact (h.2.1 i hi).2.kept (ho _ (fun z => e (h.2.2 i n hi hn z)))
end
section
/-! THE JUDGEMENT: G E cl sl ad dm a b r pc lo st: the machine, at pc with locals lo and stack st, the world as ad dm a b r say, comes to a state with E's Q. E: the machine, the method's frame, its end. -/
abbrev EX : Type := Program × Launch × Env × Room × State × MethodId × Array Value × List Frame × Method × Code
abbrev EN : Type := GM × Nat × EX × Nat × (State → Prop)
abbrev eG (E : EN) : GM := E.1
abbrev eB (E : EN) : Nat := E.2.1
abbrev eL (E : EN) : Launch := E.2.2.1.2.1
abbrev eR (E : EN) : Room := E.2.2.1.2.2.2.1
abbrev eS (E : EN) : State := E.2.2.1.2.2.2.2.1
abbrev eM (E : EN) : MethodId := E.2.2.1.2.2.2.2.2.1
abbrev eA (E : EN) : Array Value := E.2.2.1.2.2.2.2.2.2.1
abbrev eW (E : EN) : List Frame := E.2.2.1.2.2.2.2.2.2.2.1
abbrev eH (E : EN) : Method := E.2.2.1.2.2.2.2.2.2.2.2.1
abbrev eC (E : EN) : Code := E.2.2.1.2.2.2.2.2.2.2.2.2
abbrev eN (E : EN) : Nat := E.2.2.2.1
abbrev eQ (E : EN) : State → Prop := E.2.2.2.2
abbrev WW (E : EN) (H : Heap) (locs : List Loc) (cl sl : Nat) (f : JFrame) : Prop := W E.2.2.1.1 (eL E) E.2.2.1.2.2.1 (eR E) (eS E) (eM E) (eA E) (eW E) (eH E) (eC E) H locs cl sl (eQ E) f
def las : Nat → List (Option Value) → List (Nat × Value)
  | _, [] => []
  | k, none :: t => las (k + 1) t
  | k, some v :: t => (k, v) :: las (k + 1) t
theorem las_mem : ∀ (lo : List (Option Value)) (k i : Nat) (v : Value), lo[i]? = some (some v) → (k + i, v) ∈ las k lo
  | [], _, i, v, h => by simp at h
  | none :: t, k, 0, v, h => by simp at h
  | some w :: t, k, 0, v, h => by
    simp at h
    subst h
    simp [las]
  | none :: t, k, i + 1, v, h => by
    have h1 := las_mem t (k + 1) i v (by simpa using h)
    rw [show k + 1 + i = k + (i + 1) by omega] at h1
    exact h1
  | some w :: t, k, i + 1, v, h => by
    have h1 := las_mem t (k + 1) i v (by simpa using h)
    rw [show k + 1 + i = k + (i + 1) by omega] at h1
    exact List.mem_cons_of_mem _ h1
theorem las_in : ∀ (lo : List (Option Value)) (k : Nat) (q : Nat × Value), q ∈ las k lo → ∃ i, q.1 = k + i ∧ lo[i]? = some (some q.2)
  | [], _, q, h => by simp [las] at h
  | none :: t, k, q, h => by
    obtain ⟨i, h1, h2⟩ := las_in t (k + 1) q h
    exact ⟨i + 1, by omega, by simpa using h2⟩
  | some w :: t, k, q, h => by
    rcases List.mem_cons.mp h with h | h
    · subst h
      exact ⟨0, rfl, rfl⟩
    · obtain ⟨i, h1, h2⟩ := las_in t (k + 1) q h
      exact ⟨i + 1, by omega, by simpa using h2⟩
def lh (ls : Array Slot) (nL : Nat) (lo : List (Option Value)) : Prop := lv_has ls nL (las 0 lo)
theorem lh_at {ls : Array Slot} {nL : Nat} {lo : List (Option Value)} {i : Nat} {v : Value} (h : lh ls nL lo) (hi : lo[i]? = some (some v)) : ls[i]? = some (.val v) := by
  have h1 := h.2.2 _ (las_mem lo 0 i v hi)
  rwa [Nat.zero_add] at h1
def G (E : EN) (cl sl : Nat) (ad : Nat → Nat) (dm : Nat → Bool) (a : Nat → Nat → Int32) (b : Nat → Nat → Int64) (r : Nat → Nat → Option Nat) (pc : Nat) (lo : List (Option Value)) (st : List Value) : Prop :=
  ∀ (H : Heap) (locs : List Loc) (ls : Array Slot), Wd (eG E) (eB E) ad dm a b r H → va_S (fun q => eB E ≤ q) (eS E).heap H locs → lh ls (eN E) lo → WW E H locs cl sl (F0 (eM E) pc ls st)
/-- the machine, the code, the tables, the room: lev calls deep -/
def CX (E : EN) (cc : ByteArray) (own : String) (lev : Nat) : Prop :=
  E.2.2.1.1.tables.exec = Jvm.exec ∧ (eC E).code = cc ∧ (eC E).maxLocals = eN E ∧ (eS E).vm.findClass own = some (eM E).cls ∧ (∀ w ∈ gd, w.before (eA E) (eS E) = true) ∧ va_K (eG E).1 vwCl (tysG (eG E)) (eS E) ∧ lev ≤ (eR E).frames ∧ 40 * lev ≤ (eR E).locals
section GR
variable {E : EN} {cc : ByteArray} {own : String} {lev cl sl : Nat} {ad : Nat → Nat} {dm : Nat → Bool} {a : Nat → Nat → Int32} {b : Nat → Nat → Int64} {r : Nat → Nat → Option Nat} {pc q : Nat} {lo : List (Option Value)} {rest : List Value}
theorem g_topi {x : Int32} (k : ∀ y : Int32, y = x → G E cl sl ad dm a b r pc lo (.int y :: rest)) : G E cl sl ad dm a b r pc lo (.int x :: rest) := k x rfl
theorem g_topl {x : Int64} (k : ∀ y : Int64, y = x → G E cl sl ad dm a b r pc lo (.long y :: rest)) : G E cl sl ad dm a b r pc lo (.long x :: rest) := k x rfl
theorem g_wide {cl' sl' : Nat} {st : List Value} (h1 : cl ≤ cl') (h2 : sl ≤ sl') (k : G E cl' sl' ad dm a b r pc lo st) : G E cl sl ad dm a b r pc lo st := fun H L ls hW hS hl => W.widen h1 h2 (k H L ls hW hS hl)
theorem g_eqi {x y : Int32} (e : x = y) (k : G E cl sl ad dm a b r pc lo (.int y :: rest)) : G E cl sl ad dm a b r pc lo (.int x :: rest) := e ▸ k
theorem g_lo {lo' : List (Option Value)} {st : List Value} (e : ∀ (i : Nat) (v : Value), lo'[i]? = some (some v) → lo[i]? = some (some v)) (k : G E cl sl ad dm a b r pc lo' st) : G E cl sl ad dm a b r pc lo st := fun H L ls hW hS hl => k H L ls hW hS ⟨hl.1, hl.2.1, fun z hz => by
  obtain ⟨i, h1, h2⟩ := las_in lo' 0 z hz
  have h3 := lh_at hl (e i z.2 h2)
  rw [show z.1 = i by omega]
  exact h3⟩

theorem g_iconst {n : Int} {v : Int32} (C : CX E cc own lev) (d : decode cc pc = .ok (.iconst n, 1)) (hq : pc + 1 = q) (hv : Int32.ofInt n = v) (k : G E cl sl ad dm a b r q lo (.int v :: rest)) : G E cl sl ad dm a b r pc lo (rest) := fun H L ls hW hS hl => lv_iconst C.1 C.2.1 d hv (by subst hq; exact k H L ls hW hS hl)
theorem g_bipush {n : Int} {v : Int32} (C : CX E cc own lev) (d : decode cc pc = .ok (.bipush n, 2)) (hq : pc + 2 = q) (hv : (Int8.ofInt n).toInt32 = v) (k : G E cl sl ad dm a b r q lo (.int v :: rest)) : G E cl sl ad dm a b r pc lo (rest) := fun H L ls hW hS hl => lv_bipush C.1 C.2.1 d hv (by subst hq; exact k H L ls hW hS hl)
theorem g_sipush {n : Int} {v : Int32} (C : CX E cc own lev) (d : decode cc pc = .ok (.sipush n, 3)) (hq : pc + 3 = q) (hv : (Int16.ofInt n).toInt32 = v) (k : G E cl sl ad dm a b r q lo (.int v :: rest)) : G E cl sl ad dm a b r pc lo (rest) := fun H L ls hW hS hl => lv_sipush C.1 C.2.1 d hv (by subst hq; exact k H L ls hW hS hl)
theorem g_lconst {n : Fin 2} {v : Int64} (C : CX E cc own lev) (d : decode cc pc = .ok (.lconst n, 1)) (hq : pc + 1 = q) (hv : Int64.ofNat (n : Nat) = v) (k : G E cl sl ad dm a b r q lo (.long v :: rest)) : G E cl sl ad dm a b r pc lo (rest) := fun H L ls hW hS hl => lv_lconst C.1 C.2.1 d hv (by subst hq; exact k H L ls hW hS hl)
theorem g_null (C : CX E cc own lev) (d : decode cc pc = .ok (.aconst_null, 1)) (hq : pc + 1 = q) (k : G E cl sl ad dm a b r q lo (.null :: rest)) : G E cl sl ad dm a b r pc lo (rest) := fun H L ls hW hS hl => lv_null C.1 C.2.1 d (by subst hq; exact k H L ls hW hS hl)
theorem g_ldc {i : Nat} {v : Int32} (C : CX E cc own lev) (d : decode cc pc = .ok (.ldc i, 2)) (hq : pc + 2 = q) (hg : Cond.constant own i v ∈ gd) (k : G E cl sl ad dm a b r q lo (.int v :: rest)) : G E cl sl ad dm a b r pc lo (rest) := fun H L ls hW hS hl => lv_ldc C.1 C.2.1 C.2.2.2.1 (C.2.2.2.2.1 _ hg) d (by subst hq; exact k H L ls hW hS hl)
theorem g_ldc2 {i : Nat} {v : Int64} (C : CX E cc own lev) (d : decode cc pc = .ok (.ldc2_w i, 3)) (hq : pc + 3 = q) (hg : Cond.constantLong own i v ∈ gd) (k : G E cl sl ad dm a b r q lo (.long v :: rest)) : G E cl sl ad dm a b r pc lo (rest) := fun H L ls hW hS hl => lv_ldc2 C.1 C.2.1 C.2.2.2.1 (C.2.2.2.2.1 _ hg) d (by subst hq; exact k H L ls hW hS hl)
theorem g_iadd {x y : Int32} (C : CX E cc own lev) (d : decode cc pc = .ok (.iadd, 1)) (hq : pc + 1 = q) (k : G E cl sl ad dm a b r q lo (.int (x + y) :: rest)) : G E cl sl ad dm a b r pc lo (.int y :: .int x :: rest) := fun H L ls hW hS hl => lv_iadd C.1 C.2.1 d (by subst hq; exact k H L ls hW hS hl)
theorem g_isub {x y : Int32} (C : CX E cc own lev) (d : decode cc pc = .ok (.isub, 1)) (hq : pc + 1 = q) (k : G E cl sl ad dm a b r q lo (.int (x - y) :: rest)) : G E cl sl ad dm a b r pc lo (.int y :: .int x :: rest) := fun H L ls hW hS hl => lv_isub C.1 C.2.1 d (by subst hq; exact k H L ls hW hS hl)
theorem g_imul {x y : Int32} (C : CX E cc own lev) (d : decode cc pc = .ok (.imul, 1)) (hq : pc + 1 = q) (k : G E cl sl ad dm a b r q lo (.int (x * y) :: rest)) : G E cl sl ad dm a b r pc lo (.int y :: .int x :: rest) := fun H L ls hW hS hl => lv_imul C.1 C.2.1 d (by subst hq; exact k H L ls hW hS hl)
theorem g_iand {x y : Int32} (C : CX E cc own lev) (d : decode cc pc = .ok (.iand, 1)) (hq : pc + 1 = q) (k : G E cl sl ad dm a b r q lo (.int (x &&& y) :: rest)) : G E cl sl ad dm a b r pc lo (.int y :: .int x :: rest) := fun H L ls hW hS hl => lv_iand C.1 C.2.1 d (by subst hq; exact k H L ls hW hS hl)
theorem g_ior {x y : Int32} (C : CX E cc own lev) (d : decode cc pc = .ok (.ior, 1)) (hq : pc + 1 = q) (k : G E cl sl ad dm a b r q lo (.int (x ||| y) :: rest)) : G E cl sl ad dm a b r pc lo (.int y :: .int x :: rest) := fun H L ls hW hS hl => lv_ior C.1 C.2.1 d (by subst hq; exact k H L ls hW hS hl)
theorem g_idiv {x y : Int32} (C : CX E cc own lev) (d : decode cc pc = .ok (.idiv, 1)) (hq : pc + 1 = q) (hn : ¬ y = 0) (k : G E cl sl ad dm a b r q lo (.int (x / y) :: rest)) : G E cl sl ad dm a b r pc lo (.int y :: .int x :: rest) := fun H L ls hW hS hl => lv_idiv C.1 C.2.1 d hn (by subst hq; exact k H L ls hW hS hl)
theorem g_irem {x y : Int32} (C : CX E cc own lev) (d : decode cc pc = .ok (.irem, 1)) (hq : pc + 1 = q) (hn : ¬ y = 0) (k : G E cl sl ad dm a b r q lo (.int (x - x / y * y) :: rest)) : G E cl sl ad dm a b r pc lo (.int y :: .int x :: rest) := fun H L ls hW hS hl => lv_irem C.1 C.2.1 d hn (by subst hq; exact k H L ls hW hS hl)
theorem g_ineg {x : Int32} (C : CX E cc own lev) (d : decode cc pc = .ok (.ineg, 1)) (hq : pc + 1 = q) (k : G E cl sl ad dm a b r q lo (.int (-x) :: rest)) : G E cl sl ad dm a b r pc lo (.int x :: rest) := fun H L ls hW hS hl => lv_ineg C.1 C.2.1 d (by subst hq; exact k H L ls hW hS hl)
theorem g_ladd {x y : Int64} (C : CX E cc own lev) (d : decode cc pc = .ok (.ladd, 1)) (hq : pc + 1 = q) (k : G E cl sl ad dm a b r q lo (.long (x + y) :: rest)) : G E cl sl ad dm a b r pc lo (.long y :: .long x :: rest) := fun H L ls hW hS hl => lv_ladd C.1 C.2.1 d (by subst hq; exact k H L ls hW hS hl)
theorem g_lsub {x y : Int64} (C : CX E cc own lev) (d : decode cc pc = .ok (.lsub, 1)) (hq : pc + 1 = q) (k : G E cl sl ad dm a b r q lo (.long (x - y) :: rest)) : G E cl sl ad dm a b r pc lo (.long y :: .long x :: rest) := fun H L ls hW hS hl => lv_lsub C.1 C.2.1 d (by subst hq; exact k H L ls hW hS hl)
theorem g_lmul {x y : Int64} (C : CX E cc own lev) (d : decode cc pc = .ok (.lmul, 1)) (hq : pc + 1 = q) (k : G E cl sl ad dm a b r q lo (.long (x * y) :: rest)) : G E cl sl ad dm a b r pc lo (.long y :: .long x :: rest) := fun H L ls hW hS hl => lv_lmul C.1 C.2.1 d (by subst hq; exact k H L ls hW hS hl)
theorem g_land {x y : Int64} (C : CX E cc own lev) (d : decode cc pc = .ok (.land, 1)) (hq : pc + 1 = q) (k : G E cl sl ad dm a b r q lo (.long (x &&& y) :: rest)) : G E cl sl ad dm a b r pc lo (.long y :: .long x :: rest) := fun H L ls hW hS hl => lv_land C.1 C.2.1 d (by subst hq; exact k H L ls hW hS hl)
theorem g_dup {v : Value} (C : CX E cc own lev) (d : decode cc pc = .ok (.dup, 1)) (hq : pc + 1 = q) (hv : v.category = 1) (k : G E cl sl ad dm a b r q lo (v :: v :: rest)) : G E cl sl ad dm a b r pc lo (v :: rest) := fun H L ls hW hS hl => lv_dup C.1 C.2.1 d hv (by subst hq; exact k H L ls hW hS hl)
theorem g_pop {v : Value} (C : CX E cc own lev) (d : decode cc pc = .ok (.pop, 1)) (hq : pc + 1 = q) (hv : v.category = 1) (k : G E cl sl ad dm a b r q lo (rest)) : G E cl sl ad dm a b r pc lo (v :: rest) := fun H L ls hW hS hl => lv_pop C.1 C.2.1 d hv (by subst hq; exact k H L ls hW hS hl)
theorem g_dup2 {v w : Value} (C : CX E cc own lev) (d : decode cc pc = .ok (.dup2, 1)) (hq : pc + 1 = q) (hv : v.category = 1) (hw : w.category = 1) (k : G E cl sl ad dm a b r q lo (v :: w :: v :: w :: rest)) : G E cl sl ad dm a b r pc lo (v :: w :: rest) := fun H L ls hW hS hl => lv_dup2_11 C.1 C.2.1 d hv hw (by subst hq; exact k H L ls hW hS hl)
theorem g_i2l {x : Int32} (C : CX E cc own lev) (d : decode cc pc = .ok (.i2l, 1)) (hq : pc + 1 = q) (k : G E cl sl ad dm a b r q lo (.long x.toInt64 :: rest)) : G E cl sl ad dm a b r pc lo (.int x :: rest) := fun H L ls hW hS hl => lv_i2l C.1 C.2.1 d rfl (by subst hq; exact k H L ls hW hS hl)
theorem g_l2i {x : Int64} (C : CX E cc own lev) (d : decode cc pc = .ok (.l2i, 1)) (hq : pc + 1 = q) (k : G E cl sl ad dm a b r q lo (.int x.toInt32 :: rest)) : G E cl sl ad dm a b r pc lo (.long x :: rest) := fun H L ls hW hS hl => lv_l2i C.1 C.2.1 d rfl (by subst hq; exact k H L ls hW hS hl)
theorem g_lcmp {x y : Int64} (C : CX E cc own lev) (d : decode cc pc = .ok (.lcmp, 1)) (hq : pc + 1 = q) (k : G E cl sl ad dm a b r q lo (.int (lg_cmp x y) :: rest)) : G E cl sl ad dm a b r pc lo (.long y :: .long x :: rest) := fun H L ls hW hS hl => W.lcmp C.1 C.2.1 d (by subst hq; exact k H L ls hW hS hl)
theorem g_ishl {x y : Int32} (C : CX E cc own lev) (d : decode cc pc = .ok (.ishl, 1)) (hq : pc + 1 = q) (k : G E cl sl ad dm a b r q lo (.int (x <<< (y &&& 31)) :: rest)) : G E cl sl ad dm a b r pc lo (.int y :: .int x :: rest) := fun H L ls hW hS hl => lv_ishl C.1 C.2.1 d (by subst hq; exact k H L ls hW hS hl)
theorem g_ishr {x y : Int32} (C : CX E cc own lev) (d : decode cc pc = .ok (.ishr, 1)) (hq : pc + 1 = q) (k : G E cl sl ad dm a b r q lo (.int (x >>> (y &&& 31)) :: rest)) : G E cl sl ad dm a b r pc lo (.int y :: .int x :: rest) := fun H L ls hW hS hl => lv_ishr C.1 C.2.1 d (by subst hq; exact k H L ls hW hS hl)
theorem g_lshl {x : Int64} {y : Int32} (C : CX E cc own lev) (d : decode cc pc = .ok (.lshl, 1)) (hq : pc + 1 = q) (k : G E cl sl ad dm a b r q lo (.long (x <<< (y.toInt64 &&& 63)) :: rest)) : G E cl sl ad dm a b r pc lo (.int y :: .long x :: rest) := fun H L ls hW hS hl => lv_lshl C.1 C.2.1 d rfl (by subst hq; exact k H L ls hW hS hl)
theorem g_lshr {x : Int64} {y : Int32} (C : CX E cc own lev) (d : decode cc pc = .ok (.lshr, 1)) (hq : pc + 1 = q) (k : G E cl sl ad dm a b r q lo (.long (x >>> (y.toInt64 &&& 63)) :: rest)) : G E cl sl ad dm a b r pc lo (.int y :: .long x :: rest) := fun H L ls hW hS hl => lv_lshr C.1 C.2.1 d rfl (by subst hq; exact k H L ls hW hS hl)
theorem g_iload_0 {x : Int32} {t : List (Option Value)} (C : CX E cc own lev) (d : decode cc pc = .ok (.iload_n 0, 1)) (hq : pc + 1 = q) (k : G E cl sl ad dm a b r q (some (.int x) :: t) (.int x :: rest)) : G E cl sl ad dm a b r pc (some (.int x) :: t) rest := fun H L ls hW hS hl => lv_iload_n C.1 C.2.1 d rfl (lh_at hl (i := 0) rfl) (by subst hq; exact k H L ls hW hS hl)
theorem g_lload_0 {x : Int64} {t : List (Option Value)} (C : CX E cc own lev) (d : decode cc pc = .ok (.lload_n 0, 1)) (hq : pc + 1 = q) (k : G E cl sl ad dm a b r q (some (.long x) :: t) (.long x :: rest)) : G E cl sl ad dm a b r pc (some (.long x) :: t) rest := fun H L ls hW hS hl => lv_lload_n C.1 C.2.1 d rfl (lh_at hl (i := 0) rfl) (by subst hq; exact k H L ls hW hS hl)
theorem g_aload_0 {x : Nat} {t : List (Option Value)} (C : CX E cc own lev) (d : decode cc pc = .ok (.aload_n 0, 1)) (hq : pc + 1 = q) (k : G E cl sl ad dm a b r q (some (.ref x) :: t) (.ref x :: rest)) : G E cl sl ad dm a b r pc (some (.ref x) :: t) rest := fun H L ls hW hS hl => lv_aload_n C.1 C.2.1 d rfl (lh_at hl (i := 0) rfl) (by subst hq; exact k H L ls hW hS hl)
theorem g_aload_0N {t : List (Option Value)} (C : CX E cc own lev) (d : decode cc pc = .ok (.aload_n 0, 1)) (hq : pc + 1 = q) (k : G E cl sl ad dm a b r q (some .null :: t) (.null :: rest)) : G E cl sl ad dm a b r pc (some .null :: t) rest := fun H L ls hW hS hl => lv_aload_nN C.1 C.2.1 d rfl (lh_at hl (i := 0) rfl) (by subst hq; exact k H L ls hW hS hl)
theorem g_iload_1 {e0 : Option Value} {x : Int32} {t : List (Option Value)} (C : CX E cc own lev) (d : decode cc pc = .ok (.iload_n 1, 1)) (hq : pc + 1 = q) (k : G E cl sl ad dm a b r q (e0 :: some (.int x) :: t) (.int x :: rest)) : G E cl sl ad dm a b r pc (e0 :: some (.int x) :: t) rest := fun H L ls hW hS hl => lv_iload_n C.1 C.2.1 d rfl (lh_at hl (i := 1) rfl) (by subst hq; exact k H L ls hW hS hl)
theorem g_lload_1 {e0 : Option Value} {x : Int64} {t : List (Option Value)} (C : CX E cc own lev) (d : decode cc pc = .ok (.lload_n 1, 1)) (hq : pc + 1 = q) (k : G E cl sl ad dm a b r q (e0 :: some (.long x) :: t) (.long x :: rest)) : G E cl sl ad dm a b r pc (e0 :: some (.long x) :: t) rest := fun H L ls hW hS hl => lv_lload_n C.1 C.2.1 d rfl (lh_at hl (i := 1) rfl) (by subst hq; exact k H L ls hW hS hl)
theorem g_aload_1 {e0 : Option Value} {x : Nat} {t : List (Option Value)} (C : CX E cc own lev) (d : decode cc pc = .ok (.aload_n 1, 1)) (hq : pc + 1 = q) (k : G E cl sl ad dm a b r q (e0 :: some (.ref x) :: t) (.ref x :: rest)) : G E cl sl ad dm a b r pc (e0 :: some (.ref x) :: t) rest := fun H L ls hW hS hl => lv_aload_n C.1 C.2.1 d rfl (lh_at hl (i := 1) rfl) (by subst hq; exact k H L ls hW hS hl)
theorem g_aload_1N {e0 : Option Value} {t : List (Option Value)} (C : CX E cc own lev) (d : decode cc pc = .ok (.aload_n 1, 1)) (hq : pc + 1 = q) (k : G E cl sl ad dm a b r q (e0 :: some .null :: t) (.null :: rest)) : G E cl sl ad dm a b r pc (e0 :: some .null :: t) rest := fun H L ls hW hS hl => lv_aload_nN C.1 C.2.1 d rfl (lh_at hl (i := 1) rfl) (by subst hq; exact k H L ls hW hS hl)
theorem g_iload_2 {e0 e1 : Option Value} {x : Int32} {t : List (Option Value)} (C : CX E cc own lev) (d : decode cc pc = .ok (.iload_n 2, 1)) (hq : pc + 1 = q) (k : G E cl sl ad dm a b r q (e0 :: e1 :: some (.int x) :: t) (.int x :: rest)) : G E cl sl ad dm a b r pc (e0 :: e1 :: some (.int x) :: t) rest := fun H L ls hW hS hl => lv_iload_n C.1 C.2.1 d rfl (lh_at hl (i := 2) rfl) (by subst hq; exact k H L ls hW hS hl)
theorem g_lload_2 {e0 e1 : Option Value} {x : Int64} {t : List (Option Value)} (C : CX E cc own lev) (d : decode cc pc = .ok (.lload_n 2, 1)) (hq : pc + 1 = q) (k : G E cl sl ad dm a b r q (e0 :: e1 :: some (.long x) :: t) (.long x :: rest)) : G E cl sl ad dm a b r pc (e0 :: e1 :: some (.long x) :: t) rest := fun H L ls hW hS hl => lv_lload_n C.1 C.2.1 d rfl (lh_at hl (i := 2) rfl) (by subst hq; exact k H L ls hW hS hl)
theorem g_aload_2 {e0 e1 : Option Value} {x : Nat} {t : List (Option Value)} (C : CX E cc own lev) (d : decode cc pc = .ok (.aload_n 2, 1)) (hq : pc + 1 = q) (k : G E cl sl ad dm a b r q (e0 :: e1 :: some (.ref x) :: t) (.ref x :: rest)) : G E cl sl ad dm a b r pc (e0 :: e1 :: some (.ref x) :: t) rest := fun H L ls hW hS hl => lv_aload_n C.1 C.2.1 d rfl (lh_at hl (i := 2) rfl) (by subst hq; exact k H L ls hW hS hl)
theorem g_aload_2N {e0 e1 : Option Value} {t : List (Option Value)} (C : CX E cc own lev) (d : decode cc pc = .ok (.aload_n 2, 1)) (hq : pc + 1 = q) (k : G E cl sl ad dm a b r q (e0 :: e1 :: some .null :: t) (.null :: rest)) : G E cl sl ad dm a b r pc (e0 :: e1 :: some .null :: t) rest := fun H L ls hW hS hl => lv_aload_nN C.1 C.2.1 d rfl (lh_at hl (i := 2) rfl) (by subst hq; exact k H L ls hW hS hl)
theorem g_iload_3 {e0 e1 e2 : Option Value} {x : Int32} {t : List (Option Value)} (C : CX E cc own lev) (d : decode cc pc = .ok (.iload_n 3, 1)) (hq : pc + 1 = q) (k : G E cl sl ad dm a b r q (e0 :: e1 :: e2 :: some (.int x) :: t) (.int x :: rest)) : G E cl sl ad dm a b r pc (e0 :: e1 :: e2 :: some (.int x) :: t) rest := fun H L ls hW hS hl => lv_iload_n C.1 C.2.1 d rfl (lh_at hl (i := 3) rfl) (by subst hq; exact k H L ls hW hS hl)
theorem g_lload_3 {e0 e1 e2 : Option Value} {x : Int64} {t : List (Option Value)} (C : CX E cc own lev) (d : decode cc pc = .ok (.lload_n 3, 1)) (hq : pc + 1 = q) (k : G E cl sl ad dm a b r q (e0 :: e1 :: e2 :: some (.long x) :: t) (.long x :: rest)) : G E cl sl ad dm a b r pc (e0 :: e1 :: e2 :: some (.long x) :: t) rest := fun H L ls hW hS hl => lv_lload_n C.1 C.2.1 d rfl (lh_at hl (i := 3) rfl) (by subst hq; exact k H L ls hW hS hl)
theorem g_aload_3 {e0 e1 e2 : Option Value} {x : Nat} {t : List (Option Value)} (C : CX E cc own lev) (d : decode cc pc = .ok (.aload_n 3, 1)) (hq : pc + 1 = q) (k : G E cl sl ad dm a b r q (e0 :: e1 :: e2 :: some (.ref x) :: t) (.ref x :: rest)) : G E cl sl ad dm a b r pc (e0 :: e1 :: e2 :: some (.ref x) :: t) rest := fun H L ls hW hS hl => lv_aload_n C.1 C.2.1 d rfl (lh_at hl (i := 3) rfl) (by subst hq; exact k H L ls hW hS hl)
theorem g_aload_3N {e0 e1 e2 : Option Value} {t : List (Option Value)} (C : CX E cc own lev) (d : decode cc pc = .ok (.aload_n 3, 1)) (hq : pc + 1 = q) (k : G E cl sl ad dm a b r q (e0 :: e1 :: e2 :: some .null :: t) (.null :: rest)) : G E cl sl ad dm a b r pc (e0 :: e1 :: e2 :: some .null :: t) rest := fun H L ls hW hS hl => lv_aload_nN C.1 C.2.1 d rfl (lh_at hl (i := 3) rfl) (by subst hq; exact k H L ls hW hS hl)
theorem g_iload_4 {e0 e1 e2 e3 : Option Value} {x : Int32} {t : List (Option Value)} (C : CX E cc own lev) (d : decode cc pc = .ok (.iload 4, 2)) (hq : pc + 2 = q) (k : G E cl sl ad dm a b r q (e0 :: e1 :: e2 :: e3 :: some (.int x) :: t) (.int x :: rest)) : G E cl sl ad dm a b r pc (e0 :: e1 :: e2 :: e3 :: some (.int x) :: t) rest := fun H L ls hW hS hl => lv_iload C.1 C.2.1 d (lh_at hl (i := 4) rfl) (by subst hq; exact k H L ls hW hS hl)
theorem g_lload_4 {e0 e1 e2 e3 : Option Value} {x : Int64} {t : List (Option Value)} (C : CX E cc own lev) (d : decode cc pc = .ok (.lload 4, 2)) (hq : pc + 2 = q) (k : G E cl sl ad dm a b r q (e0 :: e1 :: e2 :: e3 :: some (.long x) :: t) (.long x :: rest)) : G E cl sl ad dm a b r pc (e0 :: e1 :: e2 :: e3 :: some (.long x) :: t) rest := fun H L ls hW hS hl => lv_lload C.1 C.2.1 d (lh_at hl (i := 4) rfl) (by subst hq; exact k H L ls hW hS hl)
theorem g_aload_4 {e0 e1 e2 e3 : Option Value} {x : Nat} {t : List (Option Value)} (C : CX E cc own lev) (d : decode cc pc = .ok (.aload 4, 2)) (hq : pc + 2 = q) (k : G E cl sl ad dm a b r q (e0 :: e1 :: e2 :: e3 :: some (.ref x) :: t) (.ref x :: rest)) : G E cl sl ad dm a b r pc (e0 :: e1 :: e2 :: e3 :: some (.ref x) :: t) rest := fun H L ls hW hS hl => lv_aload C.1 C.2.1 d (lh_at hl (i := 4) rfl) (by subst hq; exact k H L ls hW hS hl)
theorem g_aload_4N {e0 e1 e2 e3 : Option Value} {t : List (Option Value)} (C : CX E cc own lev) (d : decode cc pc = .ok (.aload 4, 2)) (hq : pc + 2 = q) (k : G E cl sl ad dm a b r q (e0 :: e1 :: e2 :: e3 :: some .null :: t) (.null :: rest)) : G E cl sl ad dm a b r pc (e0 :: e1 :: e2 :: e3 :: some .null :: t) rest := fun H L ls hW hS hl => lv_aloadN C.1 C.2.1 d (lh_at hl (i := 4) rfl) (by subst hq; exact k H L ls hW hS hl)
theorem g_iload_5 {e0 e1 e2 e3 e4 : Option Value} {x : Int32} {t : List (Option Value)} (C : CX E cc own lev) (d : decode cc pc = .ok (.iload 5, 2)) (hq : pc + 2 = q) (k : G E cl sl ad dm a b r q (e0 :: e1 :: e2 :: e3 :: e4 :: some (.int x) :: t) (.int x :: rest)) : G E cl sl ad dm a b r pc (e0 :: e1 :: e2 :: e3 :: e4 :: some (.int x) :: t) rest := fun H L ls hW hS hl => lv_iload C.1 C.2.1 d (lh_at hl (i := 5) rfl) (by subst hq; exact k H L ls hW hS hl)
theorem g_lload_5 {e0 e1 e2 e3 e4 : Option Value} {x : Int64} {t : List (Option Value)} (C : CX E cc own lev) (d : decode cc pc = .ok (.lload 5, 2)) (hq : pc + 2 = q) (k : G E cl sl ad dm a b r q (e0 :: e1 :: e2 :: e3 :: e4 :: some (.long x) :: t) (.long x :: rest)) : G E cl sl ad dm a b r pc (e0 :: e1 :: e2 :: e3 :: e4 :: some (.long x) :: t) rest := fun H L ls hW hS hl => lv_lload C.1 C.2.1 d (lh_at hl (i := 5) rfl) (by subst hq; exact k H L ls hW hS hl)
theorem g_aload_5 {e0 e1 e2 e3 e4 : Option Value} {x : Nat} {t : List (Option Value)} (C : CX E cc own lev) (d : decode cc pc = .ok (.aload 5, 2)) (hq : pc + 2 = q) (k : G E cl sl ad dm a b r q (e0 :: e1 :: e2 :: e3 :: e4 :: some (.ref x) :: t) (.ref x :: rest)) : G E cl sl ad dm a b r pc (e0 :: e1 :: e2 :: e3 :: e4 :: some (.ref x) :: t) rest := fun H L ls hW hS hl => lv_aload C.1 C.2.1 d (lh_at hl (i := 5) rfl) (by subst hq; exact k H L ls hW hS hl)
theorem g_aload_5N {e0 e1 e2 e3 e4 : Option Value} {t : List (Option Value)} (C : CX E cc own lev) (d : decode cc pc = .ok (.aload 5, 2)) (hq : pc + 2 = q) (k : G E cl sl ad dm a b r q (e0 :: e1 :: e2 :: e3 :: e4 :: some .null :: t) (.null :: rest)) : G E cl sl ad dm a b r pc (e0 :: e1 :: e2 :: e3 :: e4 :: some .null :: t) rest := fun H L ls hW hS hl => lv_aloadN C.1 C.2.1 d (lh_at hl (i := 5) rfl) (by subst hq; exact k H L ls hW hS hl)
theorem g_iload_6 {e0 e1 e2 e3 e4 e5 : Option Value} {x : Int32} {t : List (Option Value)} (C : CX E cc own lev) (d : decode cc pc = .ok (.iload 6, 2)) (hq : pc + 2 = q) (k : G E cl sl ad dm a b r q (e0 :: e1 :: e2 :: e3 :: e4 :: e5 :: some (.int x) :: t) (.int x :: rest)) : G E cl sl ad dm a b r pc (e0 :: e1 :: e2 :: e3 :: e4 :: e5 :: some (.int x) :: t) rest := fun H L ls hW hS hl => lv_iload C.1 C.2.1 d (lh_at hl (i := 6) rfl) (by subst hq; exact k H L ls hW hS hl)
theorem g_lload_6 {e0 e1 e2 e3 e4 e5 : Option Value} {x : Int64} {t : List (Option Value)} (C : CX E cc own lev) (d : decode cc pc = .ok (.lload 6, 2)) (hq : pc + 2 = q) (k : G E cl sl ad dm a b r q (e0 :: e1 :: e2 :: e3 :: e4 :: e5 :: some (.long x) :: t) (.long x :: rest)) : G E cl sl ad dm a b r pc (e0 :: e1 :: e2 :: e3 :: e4 :: e5 :: some (.long x) :: t) rest := fun H L ls hW hS hl => lv_lload C.1 C.2.1 d (lh_at hl (i := 6) rfl) (by subst hq; exact k H L ls hW hS hl)
theorem g_aload_6 {e0 e1 e2 e3 e4 e5 : Option Value} {x : Nat} {t : List (Option Value)} (C : CX E cc own lev) (d : decode cc pc = .ok (.aload 6, 2)) (hq : pc + 2 = q) (k : G E cl sl ad dm a b r q (e0 :: e1 :: e2 :: e3 :: e4 :: e5 :: some (.ref x) :: t) (.ref x :: rest)) : G E cl sl ad dm a b r pc (e0 :: e1 :: e2 :: e3 :: e4 :: e5 :: some (.ref x) :: t) rest := fun H L ls hW hS hl => lv_aload C.1 C.2.1 d (lh_at hl (i := 6) rfl) (by subst hq; exact k H L ls hW hS hl)
theorem g_aload_6N {e0 e1 e2 e3 e4 e5 : Option Value} {t : List (Option Value)} (C : CX E cc own lev) (d : decode cc pc = .ok (.aload 6, 2)) (hq : pc + 2 = q) (k : G E cl sl ad dm a b r q (e0 :: e1 :: e2 :: e3 :: e4 :: e5 :: some .null :: t) (.null :: rest)) : G E cl sl ad dm a b r pc (e0 :: e1 :: e2 :: e3 :: e4 :: e5 :: some .null :: t) rest := fun H L ls hW hS hl => lv_aloadN C.1 C.2.1 d (lh_at hl (i := 6) rfl) (by subst hq; exact k H L ls hW hS hl)
theorem g_iload_7 {e0 e1 e2 e3 e4 e5 e6 : Option Value} {x : Int32} {t : List (Option Value)} (C : CX E cc own lev) (d : decode cc pc = .ok (.iload 7, 2)) (hq : pc + 2 = q) (k : G E cl sl ad dm a b r q (e0 :: e1 :: e2 :: e3 :: e4 :: e5 :: e6 :: some (.int x) :: t) (.int x :: rest)) : G E cl sl ad dm a b r pc (e0 :: e1 :: e2 :: e3 :: e4 :: e5 :: e6 :: some (.int x) :: t) rest := fun H L ls hW hS hl => lv_iload C.1 C.2.1 d (lh_at hl (i := 7) rfl) (by subst hq; exact k H L ls hW hS hl)
theorem g_lload_7 {e0 e1 e2 e3 e4 e5 e6 : Option Value} {x : Int64} {t : List (Option Value)} (C : CX E cc own lev) (d : decode cc pc = .ok (.lload 7, 2)) (hq : pc + 2 = q) (k : G E cl sl ad dm a b r q (e0 :: e1 :: e2 :: e3 :: e4 :: e5 :: e6 :: some (.long x) :: t) (.long x :: rest)) : G E cl sl ad dm a b r pc (e0 :: e1 :: e2 :: e3 :: e4 :: e5 :: e6 :: some (.long x) :: t) rest := fun H L ls hW hS hl => lv_lload C.1 C.2.1 d (lh_at hl (i := 7) rfl) (by subst hq; exact k H L ls hW hS hl)
theorem g_aload_7 {e0 e1 e2 e3 e4 e5 e6 : Option Value} {x : Nat} {t : List (Option Value)} (C : CX E cc own lev) (d : decode cc pc = .ok (.aload 7, 2)) (hq : pc + 2 = q) (k : G E cl sl ad dm a b r q (e0 :: e1 :: e2 :: e3 :: e4 :: e5 :: e6 :: some (.ref x) :: t) (.ref x :: rest)) : G E cl sl ad dm a b r pc (e0 :: e1 :: e2 :: e3 :: e4 :: e5 :: e6 :: some (.ref x) :: t) rest := fun H L ls hW hS hl => lv_aload C.1 C.2.1 d (lh_at hl (i := 7) rfl) (by subst hq; exact k H L ls hW hS hl)
theorem g_aload_7N {e0 e1 e2 e3 e4 e5 e6 : Option Value} {t : List (Option Value)} (C : CX E cc own lev) (d : decode cc pc = .ok (.aload 7, 2)) (hq : pc + 2 = q) (k : G E cl sl ad dm a b r q (e0 :: e1 :: e2 :: e3 :: e4 :: e5 :: e6 :: some .null :: t) (.null :: rest)) : G E cl sl ad dm a b r pc (e0 :: e1 :: e2 :: e3 :: e4 :: e5 :: e6 :: some .null :: t) rest := fun H L ls hW hS hl => lv_aloadN C.1 C.2.1 d (lh_at hl (i := 7) rfl) (by subst hq; exact k H L ls hW hS hl)
theorem g_iload_8 {e0 e1 e2 e3 e4 e5 e6 e7 : Option Value} {x : Int32} {t : List (Option Value)} (C : CX E cc own lev) (d : decode cc pc = .ok (.iload 8, 2)) (hq : pc + 2 = q) (k : G E cl sl ad dm a b r q (e0 :: e1 :: e2 :: e3 :: e4 :: e5 :: e6 :: e7 :: some (.int x) :: t) (.int x :: rest)) : G E cl sl ad dm a b r pc (e0 :: e1 :: e2 :: e3 :: e4 :: e5 :: e6 :: e7 :: some (.int x) :: t) rest := fun H L ls hW hS hl => lv_iload C.1 C.2.1 d (lh_at hl (i := 8) rfl) (by subst hq; exact k H L ls hW hS hl)
theorem g_lload_8 {e0 e1 e2 e3 e4 e5 e6 e7 : Option Value} {x : Int64} {t : List (Option Value)} (C : CX E cc own lev) (d : decode cc pc = .ok (.lload 8, 2)) (hq : pc + 2 = q) (k : G E cl sl ad dm a b r q (e0 :: e1 :: e2 :: e3 :: e4 :: e5 :: e6 :: e7 :: some (.long x) :: t) (.long x :: rest)) : G E cl sl ad dm a b r pc (e0 :: e1 :: e2 :: e3 :: e4 :: e5 :: e6 :: e7 :: some (.long x) :: t) rest := fun H L ls hW hS hl => lv_lload C.1 C.2.1 d (lh_at hl (i := 8) rfl) (by subst hq; exact k H L ls hW hS hl)
theorem g_aload_8 {e0 e1 e2 e3 e4 e5 e6 e7 : Option Value} {x : Nat} {t : List (Option Value)} (C : CX E cc own lev) (d : decode cc pc = .ok (.aload 8, 2)) (hq : pc + 2 = q) (k : G E cl sl ad dm a b r q (e0 :: e1 :: e2 :: e3 :: e4 :: e5 :: e6 :: e7 :: some (.ref x) :: t) (.ref x :: rest)) : G E cl sl ad dm a b r pc (e0 :: e1 :: e2 :: e3 :: e4 :: e5 :: e6 :: e7 :: some (.ref x) :: t) rest := fun H L ls hW hS hl => lv_aload C.1 C.2.1 d (lh_at hl (i := 8) rfl) (by subst hq; exact k H L ls hW hS hl)
theorem g_aload_8N {e0 e1 e2 e3 e4 e5 e6 e7 : Option Value} {t : List (Option Value)} (C : CX E cc own lev) (d : decode cc pc = .ok (.aload 8, 2)) (hq : pc + 2 = q) (k : G E cl sl ad dm a b r q (e0 :: e1 :: e2 :: e3 :: e4 :: e5 :: e6 :: e7 :: some .null :: t) (.null :: rest)) : G E cl sl ad dm a b r pc (e0 :: e1 :: e2 :: e3 :: e4 :: e5 :: e6 :: e7 :: some .null :: t) rest := fun H L ls hW hS hl => lv_aloadN C.1 C.2.1 d (lh_at hl (i := 8) rfl) (by subst hq; exact k H L ls hW hS hl)
theorem g_iload_9 {e0 e1 e2 e3 e4 e5 e6 e7 e8 : Option Value} {x : Int32} {t : List (Option Value)} (C : CX E cc own lev) (d : decode cc pc = .ok (.iload 9, 2)) (hq : pc + 2 = q) (k : G E cl sl ad dm a b r q (e0 :: e1 :: e2 :: e3 :: e4 :: e5 :: e6 :: e7 :: e8 :: some (.int x) :: t) (.int x :: rest)) : G E cl sl ad dm a b r pc (e0 :: e1 :: e2 :: e3 :: e4 :: e5 :: e6 :: e7 :: e8 :: some (.int x) :: t) rest := fun H L ls hW hS hl => lv_iload C.1 C.2.1 d (lh_at hl (i := 9) rfl) (by subst hq; exact k H L ls hW hS hl)
theorem g_lload_9 {e0 e1 e2 e3 e4 e5 e6 e7 e8 : Option Value} {x : Int64} {t : List (Option Value)} (C : CX E cc own lev) (d : decode cc pc = .ok (.lload 9, 2)) (hq : pc + 2 = q) (k : G E cl sl ad dm a b r q (e0 :: e1 :: e2 :: e3 :: e4 :: e5 :: e6 :: e7 :: e8 :: some (.long x) :: t) (.long x :: rest)) : G E cl sl ad dm a b r pc (e0 :: e1 :: e2 :: e3 :: e4 :: e5 :: e6 :: e7 :: e8 :: some (.long x) :: t) rest := fun H L ls hW hS hl => lv_lload C.1 C.2.1 d (lh_at hl (i := 9) rfl) (by subst hq; exact k H L ls hW hS hl)
theorem g_aload_9 {e0 e1 e2 e3 e4 e5 e6 e7 e8 : Option Value} {x : Nat} {t : List (Option Value)} (C : CX E cc own lev) (d : decode cc pc = .ok (.aload 9, 2)) (hq : pc + 2 = q) (k : G E cl sl ad dm a b r q (e0 :: e1 :: e2 :: e3 :: e4 :: e5 :: e6 :: e7 :: e8 :: some (.ref x) :: t) (.ref x :: rest)) : G E cl sl ad dm a b r pc (e0 :: e1 :: e2 :: e3 :: e4 :: e5 :: e6 :: e7 :: e8 :: some (.ref x) :: t) rest := fun H L ls hW hS hl => lv_aload C.1 C.2.1 d (lh_at hl (i := 9) rfl) (by subst hq; exact k H L ls hW hS hl)
theorem g_aload_9N {e0 e1 e2 e3 e4 e5 e6 e7 e8 : Option Value} {t : List (Option Value)} (C : CX E cc own lev) (d : decode cc pc = .ok (.aload 9, 2)) (hq : pc + 2 = q) (k : G E cl sl ad dm a b r q (e0 :: e1 :: e2 :: e3 :: e4 :: e5 :: e6 :: e7 :: e8 :: some .null :: t) (.null :: rest)) : G E cl sl ad dm a b r pc (e0 :: e1 :: e2 :: e3 :: e4 :: e5 :: e6 :: e7 :: e8 :: some .null :: t) rest := fun H L ls hW hS hl => lv_aloadN C.1 C.2.1 d (lh_at hl (i := 9) rfl) (by subst hq; exact k H L ls hW hS hl)
theorem g_iload_10 {e0 e1 e2 e3 e4 e5 e6 e7 e8 e9 : Option Value} {x : Int32} {t : List (Option Value)} (C : CX E cc own lev) (d : decode cc pc = .ok (.iload 10, 2)) (hq : pc + 2 = q) (k : G E cl sl ad dm a b r q (e0 :: e1 :: e2 :: e3 :: e4 :: e5 :: e6 :: e7 :: e8 :: e9 :: some (.int x) :: t) (.int x :: rest)) : G E cl sl ad dm a b r pc (e0 :: e1 :: e2 :: e3 :: e4 :: e5 :: e6 :: e7 :: e8 :: e9 :: some (.int x) :: t) rest := fun H L ls hW hS hl => lv_iload C.1 C.2.1 d (lh_at hl (i := 10) rfl) (by subst hq; exact k H L ls hW hS hl)
theorem g_lload_10 {e0 e1 e2 e3 e4 e5 e6 e7 e8 e9 : Option Value} {x : Int64} {t : List (Option Value)} (C : CX E cc own lev) (d : decode cc pc = .ok (.lload 10, 2)) (hq : pc + 2 = q) (k : G E cl sl ad dm a b r q (e0 :: e1 :: e2 :: e3 :: e4 :: e5 :: e6 :: e7 :: e8 :: e9 :: some (.long x) :: t) (.long x :: rest)) : G E cl sl ad dm a b r pc (e0 :: e1 :: e2 :: e3 :: e4 :: e5 :: e6 :: e7 :: e8 :: e9 :: some (.long x) :: t) rest := fun H L ls hW hS hl => lv_lload C.1 C.2.1 d (lh_at hl (i := 10) rfl) (by subst hq; exact k H L ls hW hS hl)
theorem g_aload_10 {e0 e1 e2 e3 e4 e5 e6 e7 e8 e9 : Option Value} {x : Nat} {t : List (Option Value)} (C : CX E cc own lev) (d : decode cc pc = .ok (.aload 10, 2)) (hq : pc + 2 = q) (k : G E cl sl ad dm a b r q (e0 :: e1 :: e2 :: e3 :: e4 :: e5 :: e6 :: e7 :: e8 :: e9 :: some (.ref x) :: t) (.ref x :: rest)) : G E cl sl ad dm a b r pc (e0 :: e1 :: e2 :: e3 :: e4 :: e5 :: e6 :: e7 :: e8 :: e9 :: some (.ref x) :: t) rest := fun H L ls hW hS hl => lv_aload C.1 C.2.1 d (lh_at hl (i := 10) rfl) (by subst hq; exact k H L ls hW hS hl)
theorem g_aload_10N {e0 e1 e2 e3 e4 e5 e6 e7 e8 e9 : Option Value} {t : List (Option Value)} (C : CX E cc own lev) (d : decode cc pc = .ok (.aload 10, 2)) (hq : pc + 2 = q) (k : G E cl sl ad dm a b r q (e0 :: e1 :: e2 :: e3 :: e4 :: e5 :: e6 :: e7 :: e8 :: e9 :: some .null :: t) (.null :: rest)) : G E cl sl ad dm a b r pc (e0 :: e1 :: e2 :: e3 :: e4 :: e5 :: e6 :: e7 :: e8 :: e9 :: some .null :: t) rest := fun H L ls hW hS hl => lv_aloadN C.1 C.2.1 d (lh_at hl (i := 10) rfl) (by subst hq; exact k H L ls hW hS hl)
theorem g_iload_11 {e0 e1 e2 e3 e4 e5 e6 e7 e8 e9 e10 : Option Value} {x : Int32} {t : List (Option Value)} (C : CX E cc own lev) (d : decode cc pc = .ok (.iload 11, 2)) (hq : pc + 2 = q) (k : G E cl sl ad dm a b r q (e0 :: e1 :: e2 :: e3 :: e4 :: e5 :: e6 :: e7 :: e8 :: e9 :: e10 :: some (.int x) :: t) (.int x :: rest)) : G E cl sl ad dm a b r pc (e0 :: e1 :: e2 :: e3 :: e4 :: e5 :: e6 :: e7 :: e8 :: e9 :: e10 :: some (.int x) :: t) rest := fun H L ls hW hS hl => lv_iload C.1 C.2.1 d (lh_at hl (i := 11) rfl) (by subst hq; exact k H L ls hW hS hl)
theorem g_lload_11 {e0 e1 e2 e3 e4 e5 e6 e7 e8 e9 e10 : Option Value} {x : Int64} {t : List (Option Value)} (C : CX E cc own lev) (d : decode cc pc = .ok (.lload 11, 2)) (hq : pc + 2 = q) (k : G E cl sl ad dm a b r q (e0 :: e1 :: e2 :: e3 :: e4 :: e5 :: e6 :: e7 :: e8 :: e9 :: e10 :: some (.long x) :: t) (.long x :: rest)) : G E cl sl ad dm a b r pc (e0 :: e1 :: e2 :: e3 :: e4 :: e5 :: e6 :: e7 :: e8 :: e9 :: e10 :: some (.long x) :: t) rest := fun H L ls hW hS hl => lv_lload C.1 C.2.1 d (lh_at hl (i := 11) rfl) (by subst hq; exact k H L ls hW hS hl)
theorem g_aload_11 {e0 e1 e2 e3 e4 e5 e6 e7 e8 e9 e10 : Option Value} {x : Nat} {t : List (Option Value)} (C : CX E cc own lev) (d : decode cc pc = .ok (.aload 11, 2)) (hq : pc + 2 = q) (k : G E cl sl ad dm a b r q (e0 :: e1 :: e2 :: e3 :: e4 :: e5 :: e6 :: e7 :: e8 :: e9 :: e10 :: some (.ref x) :: t) (.ref x :: rest)) : G E cl sl ad dm a b r pc (e0 :: e1 :: e2 :: e3 :: e4 :: e5 :: e6 :: e7 :: e8 :: e9 :: e10 :: some (.ref x) :: t) rest := fun H L ls hW hS hl => lv_aload C.1 C.2.1 d (lh_at hl (i := 11) rfl) (by subst hq; exact k H L ls hW hS hl)
theorem g_aload_11N {e0 e1 e2 e3 e4 e5 e6 e7 e8 e9 e10 : Option Value} {t : List (Option Value)} (C : CX E cc own lev) (d : decode cc pc = .ok (.aload 11, 2)) (hq : pc + 2 = q) (k : G E cl sl ad dm a b r q (e0 :: e1 :: e2 :: e3 :: e4 :: e5 :: e6 :: e7 :: e8 :: e9 :: e10 :: some .null :: t) (.null :: rest)) : G E cl sl ad dm a b r pc (e0 :: e1 :: e2 :: e3 :: e4 :: e5 :: e6 :: e7 :: e8 :: e9 :: e10 :: some .null :: t) rest := fun H L ls hW hS hl => lv_aloadN C.1 C.2.1 d (lh_at hl (i := 11) rfl) (by subst hq; exact k H L ls hW hS hl)
theorem g_iload_12 {e0 e1 e2 e3 e4 e5 e6 e7 e8 e9 e10 e11 : Option Value} {x : Int32} {t : List (Option Value)} (C : CX E cc own lev) (d : decode cc pc = .ok (.iload 12, 2)) (hq : pc + 2 = q) (k : G E cl sl ad dm a b r q (e0 :: e1 :: e2 :: e3 :: e4 :: e5 :: e6 :: e7 :: e8 :: e9 :: e10 :: e11 :: some (.int x) :: t) (.int x :: rest)) : G E cl sl ad dm a b r pc (e0 :: e1 :: e2 :: e3 :: e4 :: e5 :: e6 :: e7 :: e8 :: e9 :: e10 :: e11 :: some (.int x) :: t) rest := fun H L ls hW hS hl => lv_iload C.1 C.2.1 d (lh_at hl (i := 12) rfl) (by subst hq; exact k H L ls hW hS hl)
theorem g_lload_12 {e0 e1 e2 e3 e4 e5 e6 e7 e8 e9 e10 e11 : Option Value} {x : Int64} {t : List (Option Value)} (C : CX E cc own lev) (d : decode cc pc = .ok (.lload 12, 2)) (hq : pc + 2 = q) (k : G E cl sl ad dm a b r q (e0 :: e1 :: e2 :: e3 :: e4 :: e5 :: e6 :: e7 :: e8 :: e9 :: e10 :: e11 :: some (.long x) :: t) (.long x :: rest)) : G E cl sl ad dm a b r pc (e0 :: e1 :: e2 :: e3 :: e4 :: e5 :: e6 :: e7 :: e8 :: e9 :: e10 :: e11 :: some (.long x) :: t) rest := fun H L ls hW hS hl => lv_lload C.1 C.2.1 d (lh_at hl (i := 12) rfl) (by subst hq; exact k H L ls hW hS hl)
theorem g_aload_12 {e0 e1 e2 e3 e4 e5 e6 e7 e8 e9 e10 e11 : Option Value} {x : Nat} {t : List (Option Value)} (C : CX E cc own lev) (d : decode cc pc = .ok (.aload 12, 2)) (hq : pc + 2 = q) (k : G E cl sl ad dm a b r q (e0 :: e1 :: e2 :: e3 :: e4 :: e5 :: e6 :: e7 :: e8 :: e9 :: e10 :: e11 :: some (.ref x) :: t) (.ref x :: rest)) : G E cl sl ad dm a b r pc (e0 :: e1 :: e2 :: e3 :: e4 :: e5 :: e6 :: e7 :: e8 :: e9 :: e10 :: e11 :: some (.ref x) :: t) rest := fun H L ls hW hS hl => lv_aload C.1 C.2.1 d (lh_at hl (i := 12) rfl) (by subst hq; exact k H L ls hW hS hl)
theorem g_aload_12N {e0 e1 e2 e3 e4 e5 e6 e7 e8 e9 e10 e11 : Option Value} {t : List (Option Value)} (C : CX E cc own lev) (d : decode cc pc = .ok (.aload 12, 2)) (hq : pc + 2 = q) (k : G E cl sl ad dm a b r q (e0 :: e1 :: e2 :: e3 :: e4 :: e5 :: e6 :: e7 :: e8 :: e9 :: e10 :: e11 :: some .null :: t) (.null :: rest)) : G E cl sl ad dm a b r pc (e0 :: e1 :: e2 :: e3 :: e4 :: e5 :: e6 :: e7 :: e8 :: e9 :: e10 :: e11 :: some .null :: t) rest := fun H L ls hW hS hl => lv_aloadN C.1 C.2.1 d (lh_at hl (i := 12) rfl) (by subst hq; exact k H L ls hW hS hl)
/-- a store into a local: the slot before holds no long -/
def okst (lo : List (Option Value)) : Nat → Bool
  | 0 => true
  | j + 1 => match lo[j]? with
    | some (some v) => v.category != 2
    | _ => true
theorem lh_st {ls : Array Slot} {nL : Nat} {lo lo' : List (Option Value)} {i : Nat} {v : Value} (hl : lv_has ls nL ((i, v) :: (las 0 lo).filter (fun q => !(q.1 == i) && !(q.1 + 1 == i && q.2.category == 2)))) (ho : okst lo i = true) (h1 : ∀ w, lo'[i]? = some (some w) → w = v) (h2 : ∀ j w, j ≠ i → lo'[j]? = some (some w) → lo[j]? = some (some w)) : lh ls nL lo' := by
  refine ⟨hl.1, hl.2.1, fun z hz => ?_⟩
  obtain ⟨j, e, hj⟩ := las_in lo' 0 z hz
  have e : z.1 = j := by omega
  by_cases hji : j = i
  · subst hji
    rw [e, h1 _ hj]
    exact hl.2.2 (j, v) List.mem_cons_self
  · have h3 := h2 j _ hji hj
    refine hl.2.2 z (List.mem_cons_of_mem _ (List.mem_filter.mpr ⟨?_, ?_⟩))
    · have h4 := las_mem lo 0 j z.2 h3
      rw [Nat.zero_add, ← e] at h4
      exact h4
    · rw [e]
      cases i with
      | zero => simp [hji]
      | succ i =>
        by_cases hj2 : j = i
        · subst hj2
          simp only [okst, h3] at ho
          simp at ho
          simp [ho]
        · simp [hji, hj2]

theorem lh_st2 {ls : Array Slot} {nL : Nat} {lo lo' : List (Option Value)} {i : Nat} {v : Value} (hl : lv_has ls nL ((i, v) :: (las 0 lo).filter (fun q => !(q.1 == i) && (!(q.1 == i + 1) && !(q.1 + 1 == i && q.2.category == 2))))) (ho : okst lo i = true) (h1 : ∀ w, lo'[i]? = some (some w) → w = v) (h0 : ∀ w, ¬ lo'[i + 1]? = some (some w)) (h2 : ∀ j w, j ≠ i → j ≠ i + 1 → lo'[j]? = some (some w) → lo[j]? = some (some w)) : lh ls nL lo' := by
  refine ⟨hl.1, hl.2.1, fun z hz => ?_⟩
  obtain ⟨j, e, hj⟩ := las_in lo' 0 z hz
  have e : z.1 = j := by omega
  by_cases hji : j = i
  · subst hji
    rw [e, h1 _ hj]
    exact hl.2.2 (j, v) List.mem_cons_self
  · have hj9 : j ≠ i + 1 := fun z9 => h0 _ (z9 ▸ hj)
    have h3 := h2 j _ hji hj9 hj
    refine hl.2.2 z (List.mem_cons_of_mem _ (List.mem_filter.mpr ⟨?_, ?_⟩))
    · have h4 := las_mem lo 0 j z.2 h3
      rw [Nat.zero_add, ← e] at h4
      exact h4
    · rw [e]
      cases i with
      | zero => simp [hji, hj9] <;> omega
      | succ i =>
        by_cases hj2 : j = i
        · subst hj2
          simp only [okst, h3] at ho
          simp at ho
          simp [ho] <;> omega
        · simp [hji, hj2] <;> omega

theorem g_istore_1 {e0 e1 : Option Value} {x : Int32} {t : List (Option Value)} (C : CX E cc own lev) (d : decode cc pc = .ok (.istore_n 1, 1)) (hq : pc + 1 = q) (hn : 1 < eN E) (ho : okst (e0 :: e1 :: t) 1 = true) (k : G E cl sl ad dm a b r q (e0 :: some (.int x) :: t) rest) : G E cl sl ad dm a b r pc (e0 :: e1 :: t) (.int x :: rest) := fun H L ls hW hS hl => lv_istore_n C.1 C.2.1 d rfl hl hn rfl (fun ls' h' => by
  subst hq
  refine k H L ls' hW hS (lh_st h' ho (fun w h => by cases h; rfl) (fun j w hj h => ?_))
  iterate 2 (rcases j with _ | j; (first | exact absurd rfl hj | exact h | exact absurd rfl hj2))
  exact h)
theorem g_astore_1 {e0 e1 : Option Value} {x : Nat} {t : List (Option Value)} (C : CX E cc own lev) (d : decode cc pc = .ok (.astore_n 1, 1)) (hq : pc + 1 = q) (hn : 1 < eN E) (ho : okst (e0 :: e1 :: t) 1 = true) (k : G E cl sl ad dm a b r q (e0 :: some (.ref x) :: t) rest) : G E cl sl ad dm a b r pc (e0 :: e1 :: t) (.ref x :: rest) := fun H L ls hW hS hl => lv_astore_n C.1 C.2.1 d rfl hl hn rfl (fun ls' h' => by
  subst hq
  refine k H L ls' hW hS (lh_st h' ho (fun w h => by cases h; rfl) (fun j w hj h => ?_))
  iterate 2 (rcases j with _ | j; (first | exact absurd rfl hj | exact h | exact absurd rfl hj2))
  exact h)
theorem g_lstore_1 {e0 e1 : Option Value} {f : Option Value} {x : Int64} {t : List (Option Value)} (C : CX E cc own lev) (d : decode cc pc = .ok (.lstore_n 1, 1)) (hq : pc + 1 = q) (hn : 2 < eN E) (ho : okst (e0 :: e1 :: f :: t) 1 = true) (k : G E cl sl ad dm a b r q (e0 :: some (.long x) :: none :: t) rest) : G E cl sl ad dm a b r pc (e0 :: e1 :: f :: t) (.long x :: rest) := fun H L ls hW hS hl => lv_lstore_n C.1 C.2.1 d rfl hl hn rfl (fun ls' h' => by
  subst hq
  refine k H L ls' hW hS (lh_st2 h' ho (fun w h => by cases h; rfl) (fun w h => by cases h) (fun j w hj hj2 h => ?_))
  iterate 3 (rcases j with _ | j; (first | exact absurd rfl hj | exact h | exact absurd rfl hj2))
  exact h)
theorem g_istore_2 {e0 e1 e2 : Option Value} {x : Int32} {t : List (Option Value)} (C : CX E cc own lev) (d : decode cc pc = .ok (.istore_n 2, 1)) (hq : pc + 1 = q) (hn : 2 < eN E) (ho : okst (e0 :: e1 :: e2 :: t) 2 = true) (k : G E cl sl ad dm a b r q (e0 :: e1 :: some (.int x) :: t) rest) : G E cl sl ad dm a b r pc (e0 :: e1 :: e2 :: t) (.int x :: rest) := fun H L ls hW hS hl => lv_istore_n C.1 C.2.1 d rfl hl hn rfl (fun ls' h' => by
  subst hq
  refine k H L ls' hW hS (lh_st h' ho (fun w h => by cases h; rfl) (fun j w hj h => ?_))
  iterate 3 (rcases j with _ | j; (first | exact absurd rfl hj | exact h | exact absurd rfl hj2))
  exact h)
theorem g_astore_2 {e0 e1 e2 : Option Value} {x : Nat} {t : List (Option Value)} (C : CX E cc own lev) (d : decode cc pc = .ok (.astore_n 2, 1)) (hq : pc + 1 = q) (hn : 2 < eN E) (ho : okst (e0 :: e1 :: e2 :: t) 2 = true) (k : G E cl sl ad dm a b r q (e0 :: e1 :: some (.ref x) :: t) rest) : G E cl sl ad dm a b r pc (e0 :: e1 :: e2 :: t) (.ref x :: rest) := fun H L ls hW hS hl => lv_astore_n C.1 C.2.1 d rfl hl hn rfl (fun ls' h' => by
  subst hq
  refine k H L ls' hW hS (lh_st h' ho (fun w h => by cases h; rfl) (fun j w hj h => ?_))
  iterate 3 (rcases j with _ | j; (first | exact absurd rfl hj | exact h | exact absurd rfl hj2))
  exact h)
theorem g_lstore_2 {e0 e1 e2 : Option Value} {f : Option Value} {x : Int64} {t : List (Option Value)} (C : CX E cc own lev) (d : decode cc pc = .ok (.lstore_n 2, 1)) (hq : pc + 1 = q) (hn : 3 < eN E) (ho : okst (e0 :: e1 :: e2 :: f :: t) 2 = true) (k : G E cl sl ad dm a b r q (e0 :: e1 :: some (.long x) :: none :: t) rest) : G E cl sl ad dm a b r pc (e0 :: e1 :: e2 :: f :: t) (.long x :: rest) := fun H L ls hW hS hl => lv_lstore_n C.1 C.2.1 d rfl hl hn rfl (fun ls' h' => by
  subst hq
  refine k H L ls' hW hS (lh_st2 h' ho (fun w h => by cases h; rfl) (fun w h => by cases h) (fun j w hj hj2 h => ?_))
  iterate 4 (rcases j with _ | j; (first | exact absurd rfl hj | exact h | exact absurd rfl hj2))
  exact h)
theorem g_istore_3 {e0 e1 e2 e3 : Option Value} {x : Int32} {t : List (Option Value)} (C : CX E cc own lev) (d : decode cc pc = .ok (.istore_n 3, 1)) (hq : pc + 1 = q) (hn : 3 < eN E) (ho : okst (e0 :: e1 :: e2 :: e3 :: t) 3 = true) (k : G E cl sl ad dm a b r q (e0 :: e1 :: e2 :: some (.int x) :: t) rest) : G E cl sl ad dm a b r pc (e0 :: e1 :: e2 :: e3 :: t) (.int x :: rest) := fun H L ls hW hS hl => lv_istore_n C.1 C.2.1 d rfl hl hn rfl (fun ls' h' => by
  subst hq
  refine k H L ls' hW hS (lh_st h' ho (fun w h => by cases h; rfl) (fun j w hj h => ?_))
  iterate 4 (rcases j with _ | j; (first | exact absurd rfl hj | exact h | exact absurd rfl hj2))
  exact h)
theorem g_astore_3 {e0 e1 e2 e3 : Option Value} {x : Nat} {t : List (Option Value)} (C : CX E cc own lev) (d : decode cc pc = .ok (.astore_n 3, 1)) (hq : pc + 1 = q) (hn : 3 < eN E) (ho : okst (e0 :: e1 :: e2 :: e3 :: t) 3 = true) (k : G E cl sl ad dm a b r q (e0 :: e1 :: e2 :: some (.ref x) :: t) rest) : G E cl sl ad dm a b r pc (e0 :: e1 :: e2 :: e3 :: t) (.ref x :: rest) := fun H L ls hW hS hl => lv_astore_n C.1 C.2.1 d rfl hl hn rfl (fun ls' h' => by
  subst hq
  refine k H L ls' hW hS (lh_st h' ho (fun w h => by cases h; rfl) (fun j w hj h => ?_))
  iterate 4 (rcases j with _ | j; (first | exact absurd rfl hj | exact h | exact absurd rfl hj2))
  exact h)
theorem g_lstore_3 {e0 e1 e2 e3 : Option Value} {f : Option Value} {x : Int64} {t : List (Option Value)} (C : CX E cc own lev) (d : decode cc pc = .ok (.lstore_n 3, 1)) (hq : pc + 1 = q) (hn : 4 < eN E) (ho : okst (e0 :: e1 :: e2 :: e3 :: f :: t) 3 = true) (k : G E cl sl ad dm a b r q (e0 :: e1 :: e2 :: some (.long x) :: none :: t) rest) : G E cl sl ad dm a b r pc (e0 :: e1 :: e2 :: e3 :: f :: t) (.long x :: rest) := fun H L ls hW hS hl => lv_lstore_n C.1 C.2.1 d rfl hl hn rfl (fun ls' h' => by
  subst hq
  refine k H L ls' hW hS (lh_st2 h' ho (fun w h => by cases h; rfl) (fun w h => by cases h) (fun j w hj hj2 h => ?_))
  iterate 5 (rcases j with _ | j; (first | exact absurd rfl hj | exact h | exact absurd rfl hj2))
  exact h)
theorem g_istore_4 {e0 e1 e2 e3 e4 : Option Value} {x : Int32} {t : List (Option Value)} (C : CX E cc own lev) (d : decode cc pc = .ok (.istore 4, 2)) (hq : pc + 2 = q) (hn : 4 < eN E) (ho : okst (e0 :: e1 :: e2 :: e3 :: e4 :: t) 4 = true) (k : G E cl sl ad dm a b r q (e0 :: e1 :: e2 :: e3 :: some (.int x) :: t) rest) : G E cl sl ad dm a b r pc (e0 :: e1 :: e2 :: e3 :: e4 :: t) (.int x :: rest) := fun H L ls hW hS hl => lv_istore C.1 C.2.1 d hl hn rfl (fun ls' h' => by
  subst hq
  refine k H L ls' hW hS (lh_st h' ho (fun w h => by cases h; rfl) (fun j w hj h => ?_))
  iterate 5 (rcases j with _ | j; (first | exact absurd rfl hj | exact h | exact absurd rfl hj2))
  exact h)
theorem g_astore_4 {e0 e1 e2 e3 e4 : Option Value} {x : Nat} {t : List (Option Value)} (C : CX E cc own lev) (d : decode cc pc = .ok (.astore 4, 2)) (hq : pc + 2 = q) (hn : 4 < eN E) (ho : okst (e0 :: e1 :: e2 :: e3 :: e4 :: t) 4 = true) (k : G E cl sl ad dm a b r q (e0 :: e1 :: e2 :: e3 :: some (.ref x) :: t) rest) : G E cl sl ad dm a b r pc (e0 :: e1 :: e2 :: e3 :: e4 :: t) (.ref x :: rest) := fun H L ls hW hS hl => lv_astore C.1 C.2.1 d hl hn rfl (fun ls' h' => by
  subst hq
  refine k H L ls' hW hS (lh_st h' ho (fun w h => by cases h; rfl) (fun j w hj h => ?_))
  iterate 5 (rcases j with _ | j; (first | exact absurd rfl hj | exact h | exact absurd rfl hj2))
  exact h)
theorem g_lstore_4 {e0 e1 e2 e3 e4 : Option Value} {f : Option Value} {x : Int64} {t : List (Option Value)} (C : CX E cc own lev) (d : decode cc pc = .ok (.lstore 4, 2)) (hq : pc + 2 = q) (hn : 5 < eN E) (ho : okst (e0 :: e1 :: e2 :: e3 :: e4 :: f :: t) 4 = true) (k : G E cl sl ad dm a b r q (e0 :: e1 :: e2 :: e3 :: some (.long x) :: none :: t) rest) : G E cl sl ad dm a b r pc (e0 :: e1 :: e2 :: e3 :: e4 :: f :: t) (.long x :: rest) := fun H L ls hW hS hl => lv_lstore C.1 C.2.1 d hl hn rfl (fun ls' h' => by
  subst hq
  refine k H L ls' hW hS (lh_st2 h' ho (fun w h => by cases h; rfl) (fun w h => by cases h) (fun j w hj hj2 h => ?_))
  iterate 6 (rcases j with _ | j; (first | exact absurd rfl hj | exact h | exact absurd rfl hj2))
  exact h)
theorem g_istore_5 {e0 e1 e2 e3 e4 e5 : Option Value} {x : Int32} {t : List (Option Value)} (C : CX E cc own lev) (d : decode cc pc = .ok (.istore 5, 2)) (hq : pc + 2 = q) (hn : 5 < eN E) (ho : okst (e0 :: e1 :: e2 :: e3 :: e4 :: e5 :: t) 5 = true) (k : G E cl sl ad dm a b r q (e0 :: e1 :: e2 :: e3 :: e4 :: some (.int x) :: t) rest) : G E cl sl ad dm a b r pc (e0 :: e1 :: e2 :: e3 :: e4 :: e5 :: t) (.int x :: rest) := fun H L ls hW hS hl => lv_istore C.1 C.2.1 d hl hn rfl (fun ls' h' => by
  subst hq
  refine k H L ls' hW hS (lh_st h' ho (fun w h => by cases h; rfl) (fun j w hj h => ?_))
  iterate 6 (rcases j with _ | j; (first | exact absurd rfl hj | exact h | exact absurd rfl hj2))
  exact h)
theorem g_astore_5 {e0 e1 e2 e3 e4 e5 : Option Value} {x : Nat} {t : List (Option Value)} (C : CX E cc own lev) (d : decode cc pc = .ok (.astore 5, 2)) (hq : pc + 2 = q) (hn : 5 < eN E) (ho : okst (e0 :: e1 :: e2 :: e3 :: e4 :: e5 :: t) 5 = true) (k : G E cl sl ad dm a b r q (e0 :: e1 :: e2 :: e3 :: e4 :: some (.ref x) :: t) rest) : G E cl sl ad dm a b r pc (e0 :: e1 :: e2 :: e3 :: e4 :: e5 :: t) (.ref x :: rest) := fun H L ls hW hS hl => lv_astore C.1 C.2.1 d hl hn rfl (fun ls' h' => by
  subst hq
  refine k H L ls' hW hS (lh_st h' ho (fun w h => by cases h; rfl) (fun j w hj h => ?_))
  iterate 6 (rcases j with _ | j; (first | exact absurd rfl hj | exact h | exact absurd rfl hj2))
  exact h)
theorem g_lstore_5 {e0 e1 e2 e3 e4 e5 : Option Value} {f : Option Value} {x : Int64} {t : List (Option Value)} (C : CX E cc own lev) (d : decode cc pc = .ok (.lstore 5, 2)) (hq : pc + 2 = q) (hn : 6 < eN E) (ho : okst (e0 :: e1 :: e2 :: e3 :: e4 :: e5 :: f :: t) 5 = true) (k : G E cl sl ad dm a b r q (e0 :: e1 :: e2 :: e3 :: e4 :: some (.long x) :: none :: t) rest) : G E cl sl ad dm a b r pc (e0 :: e1 :: e2 :: e3 :: e4 :: e5 :: f :: t) (.long x :: rest) := fun H L ls hW hS hl => lv_lstore C.1 C.2.1 d hl hn rfl (fun ls' h' => by
  subst hq
  refine k H L ls' hW hS (lh_st2 h' ho (fun w h => by cases h; rfl) (fun w h => by cases h) (fun j w hj hj2 h => ?_))
  iterate 7 (rcases j with _ | j; (first | exact absurd rfl hj | exact h | exact absurd rfl hj2))
  exact h)
theorem g_istore_6 {e0 e1 e2 e3 e4 e5 e6 : Option Value} {x : Int32} {t : List (Option Value)} (C : CX E cc own lev) (d : decode cc pc = .ok (.istore 6, 2)) (hq : pc + 2 = q) (hn : 6 < eN E) (ho : okst (e0 :: e1 :: e2 :: e3 :: e4 :: e5 :: e6 :: t) 6 = true) (k : G E cl sl ad dm a b r q (e0 :: e1 :: e2 :: e3 :: e4 :: e5 :: some (.int x) :: t) rest) : G E cl sl ad dm a b r pc (e0 :: e1 :: e2 :: e3 :: e4 :: e5 :: e6 :: t) (.int x :: rest) := fun H L ls hW hS hl => lv_istore C.1 C.2.1 d hl hn rfl (fun ls' h' => by
  subst hq
  refine k H L ls' hW hS (lh_st h' ho (fun w h => by cases h; rfl) (fun j w hj h => ?_))
  iterate 7 (rcases j with _ | j; (first | exact absurd rfl hj | exact h | exact absurd rfl hj2))
  exact h)
theorem g_astore_6 {e0 e1 e2 e3 e4 e5 e6 : Option Value} {x : Nat} {t : List (Option Value)} (C : CX E cc own lev) (d : decode cc pc = .ok (.astore 6, 2)) (hq : pc + 2 = q) (hn : 6 < eN E) (ho : okst (e0 :: e1 :: e2 :: e3 :: e4 :: e5 :: e6 :: t) 6 = true) (k : G E cl sl ad dm a b r q (e0 :: e1 :: e2 :: e3 :: e4 :: e5 :: some (.ref x) :: t) rest) : G E cl sl ad dm a b r pc (e0 :: e1 :: e2 :: e3 :: e4 :: e5 :: e6 :: t) (.ref x :: rest) := fun H L ls hW hS hl => lv_astore C.1 C.2.1 d hl hn rfl (fun ls' h' => by
  subst hq
  refine k H L ls' hW hS (lh_st h' ho (fun w h => by cases h; rfl) (fun j w hj h => ?_))
  iterate 7 (rcases j with _ | j; (first | exact absurd rfl hj | exact h | exact absurd rfl hj2))
  exact h)
theorem g_lstore_6 {e0 e1 e2 e3 e4 e5 e6 : Option Value} {f : Option Value} {x : Int64} {t : List (Option Value)} (C : CX E cc own lev) (d : decode cc pc = .ok (.lstore 6, 2)) (hq : pc + 2 = q) (hn : 7 < eN E) (ho : okst (e0 :: e1 :: e2 :: e3 :: e4 :: e5 :: e6 :: f :: t) 6 = true) (k : G E cl sl ad dm a b r q (e0 :: e1 :: e2 :: e3 :: e4 :: e5 :: some (.long x) :: none :: t) rest) : G E cl sl ad dm a b r pc (e0 :: e1 :: e2 :: e3 :: e4 :: e5 :: e6 :: f :: t) (.long x :: rest) := fun H L ls hW hS hl => lv_lstore C.1 C.2.1 d hl hn rfl (fun ls' h' => by
  subst hq
  refine k H L ls' hW hS (lh_st2 h' ho (fun w h => by cases h; rfl) (fun w h => by cases h) (fun j w hj hj2 h => ?_))
  iterate 8 (rcases j with _ | j; (first | exact absurd rfl hj | exact h | exact absurd rfl hj2))
  exact h)
theorem g_istore_7 {e0 e1 e2 e3 e4 e5 e6 e7 : Option Value} {x : Int32} {t : List (Option Value)} (C : CX E cc own lev) (d : decode cc pc = .ok (.istore 7, 2)) (hq : pc + 2 = q) (hn : 7 < eN E) (ho : okst (e0 :: e1 :: e2 :: e3 :: e4 :: e5 :: e6 :: e7 :: t) 7 = true) (k : G E cl sl ad dm a b r q (e0 :: e1 :: e2 :: e3 :: e4 :: e5 :: e6 :: some (.int x) :: t) rest) : G E cl sl ad dm a b r pc (e0 :: e1 :: e2 :: e3 :: e4 :: e5 :: e6 :: e7 :: t) (.int x :: rest) := fun H L ls hW hS hl => lv_istore C.1 C.2.1 d hl hn rfl (fun ls' h' => by
  subst hq
  refine k H L ls' hW hS (lh_st h' ho (fun w h => by cases h; rfl) (fun j w hj h => ?_))
  iterate 8 (rcases j with _ | j; (first | exact absurd rfl hj | exact h | exact absurd rfl hj2))
  exact h)
theorem g_astore_7 {e0 e1 e2 e3 e4 e5 e6 e7 : Option Value} {x : Nat} {t : List (Option Value)} (C : CX E cc own lev) (d : decode cc pc = .ok (.astore 7, 2)) (hq : pc + 2 = q) (hn : 7 < eN E) (ho : okst (e0 :: e1 :: e2 :: e3 :: e4 :: e5 :: e6 :: e7 :: t) 7 = true) (k : G E cl sl ad dm a b r q (e0 :: e1 :: e2 :: e3 :: e4 :: e5 :: e6 :: some (.ref x) :: t) rest) : G E cl sl ad dm a b r pc (e0 :: e1 :: e2 :: e3 :: e4 :: e5 :: e6 :: e7 :: t) (.ref x :: rest) := fun H L ls hW hS hl => lv_astore C.1 C.2.1 d hl hn rfl (fun ls' h' => by
  subst hq
  refine k H L ls' hW hS (lh_st h' ho (fun w h => by cases h; rfl) (fun j w hj h => ?_))
  iterate 8 (rcases j with _ | j; (first | exact absurd rfl hj | exact h | exact absurd rfl hj2))
  exact h)
theorem g_lstore_7 {e0 e1 e2 e3 e4 e5 e6 e7 : Option Value} {f : Option Value} {x : Int64} {t : List (Option Value)} (C : CX E cc own lev) (d : decode cc pc = .ok (.lstore 7, 2)) (hq : pc + 2 = q) (hn : 8 < eN E) (ho : okst (e0 :: e1 :: e2 :: e3 :: e4 :: e5 :: e6 :: e7 :: f :: t) 7 = true) (k : G E cl sl ad dm a b r q (e0 :: e1 :: e2 :: e3 :: e4 :: e5 :: e6 :: some (.long x) :: none :: t) rest) : G E cl sl ad dm a b r pc (e0 :: e1 :: e2 :: e3 :: e4 :: e5 :: e6 :: e7 :: f :: t) (.long x :: rest) := fun H L ls hW hS hl => lv_lstore C.1 C.2.1 d hl hn rfl (fun ls' h' => by
  subst hq
  refine k H L ls' hW hS (lh_st2 h' ho (fun w h => by cases h; rfl) (fun w h => by cases h) (fun j w hj hj2 h => ?_))
  iterate 9 (rcases j with _ | j; (first | exact absurd rfl hj | exact h | exact absurd rfl hj2))
  exact h)
theorem g_istore_8 {e0 e1 e2 e3 e4 e5 e6 e7 e8 : Option Value} {x : Int32} {t : List (Option Value)} (C : CX E cc own lev) (d : decode cc pc = .ok (.istore 8, 2)) (hq : pc + 2 = q) (hn : 8 < eN E) (ho : okst (e0 :: e1 :: e2 :: e3 :: e4 :: e5 :: e6 :: e7 :: e8 :: t) 8 = true) (k : G E cl sl ad dm a b r q (e0 :: e1 :: e2 :: e3 :: e4 :: e5 :: e6 :: e7 :: some (.int x) :: t) rest) : G E cl sl ad dm a b r pc (e0 :: e1 :: e2 :: e3 :: e4 :: e5 :: e6 :: e7 :: e8 :: t) (.int x :: rest) := fun H L ls hW hS hl => lv_istore C.1 C.2.1 d hl hn rfl (fun ls' h' => by
  subst hq
  refine k H L ls' hW hS (lh_st h' ho (fun w h => by cases h; rfl) (fun j w hj h => ?_))
  iterate 9 (rcases j with _ | j; (first | exact absurd rfl hj | exact h | exact absurd rfl hj2))
  exact h)
theorem g_astore_8 {e0 e1 e2 e3 e4 e5 e6 e7 e8 : Option Value} {x : Nat} {t : List (Option Value)} (C : CX E cc own lev) (d : decode cc pc = .ok (.astore 8, 2)) (hq : pc + 2 = q) (hn : 8 < eN E) (ho : okst (e0 :: e1 :: e2 :: e3 :: e4 :: e5 :: e6 :: e7 :: e8 :: t) 8 = true) (k : G E cl sl ad dm a b r q (e0 :: e1 :: e2 :: e3 :: e4 :: e5 :: e6 :: e7 :: some (.ref x) :: t) rest) : G E cl sl ad dm a b r pc (e0 :: e1 :: e2 :: e3 :: e4 :: e5 :: e6 :: e7 :: e8 :: t) (.ref x :: rest) := fun H L ls hW hS hl => lv_astore C.1 C.2.1 d hl hn rfl (fun ls' h' => by
  subst hq
  refine k H L ls' hW hS (lh_st h' ho (fun w h => by cases h; rfl) (fun j w hj h => ?_))
  iterate 9 (rcases j with _ | j; (first | exact absurd rfl hj | exact h | exact absurd rfl hj2))
  exact h)
theorem g_lstore_8 {e0 e1 e2 e3 e4 e5 e6 e7 e8 : Option Value} {f : Option Value} {x : Int64} {t : List (Option Value)} (C : CX E cc own lev) (d : decode cc pc = .ok (.lstore 8, 2)) (hq : pc + 2 = q) (hn : 9 < eN E) (ho : okst (e0 :: e1 :: e2 :: e3 :: e4 :: e5 :: e6 :: e7 :: e8 :: f :: t) 8 = true) (k : G E cl sl ad dm a b r q (e0 :: e1 :: e2 :: e3 :: e4 :: e5 :: e6 :: e7 :: some (.long x) :: none :: t) rest) : G E cl sl ad dm a b r pc (e0 :: e1 :: e2 :: e3 :: e4 :: e5 :: e6 :: e7 :: e8 :: f :: t) (.long x :: rest) := fun H L ls hW hS hl => lv_lstore C.1 C.2.1 d hl hn rfl (fun ls' h' => by
  subst hq
  refine k H L ls' hW hS (lh_st2 h' ho (fun w h => by cases h; rfl) (fun w h => by cases h) (fun j w hj hj2 h => ?_))
  iterate 10 (rcases j with _ | j; (first | exact absurd rfl hj | exact h | exact absurd rfl hj2))
  exact h)
theorem g_istore_9 {e0 e1 e2 e3 e4 e5 e6 e7 e8 e9 : Option Value} {x : Int32} {t : List (Option Value)} (C : CX E cc own lev) (d : decode cc pc = .ok (.istore 9, 2)) (hq : pc + 2 = q) (hn : 9 < eN E) (ho : okst (e0 :: e1 :: e2 :: e3 :: e4 :: e5 :: e6 :: e7 :: e8 :: e9 :: t) 9 = true) (k : G E cl sl ad dm a b r q (e0 :: e1 :: e2 :: e3 :: e4 :: e5 :: e6 :: e7 :: e8 :: some (.int x) :: t) rest) : G E cl sl ad dm a b r pc (e0 :: e1 :: e2 :: e3 :: e4 :: e5 :: e6 :: e7 :: e8 :: e9 :: t) (.int x :: rest) := fun H L ls hW hS hl => lv_istore C.1 C.2.1 d hl hn rfl (fun ls' h' => by
  subst hq
  refine k H L ls' hW hS (lh_st h' ho (fun w h => by cases h; rfl) (fun j w hj h => ?_))
  iterate 10 (rcases j with _ | j; (first | exact absurd rfl hj | exact h | exact absurd rfl hj2))
  exact h)
theorem g_astore_9 {e0 e1 e2 e3 e4 e5 e6 e7 e8 e9 : Option Value} {x : Nat} {t : List (Option Value)} (C : CX E cc own lev) (d : decode cc pc = .ok (.astore 9, 2)) (hq : pc + 2 = q) (hn : 9 < eN E) (ho : okst (e0 :: e1 :: e2 :: e3 :: e4 :: e5 :: e6 :: e7 :: e8 :: e9 :: t) 9 = true) (k : G E cl sl ad dm a b r q (e0 :: e1 :: e2 :: e3 :: e4 :: e5 :: e6 :: e7 :: e8 :: some (.ref x) :: t) rest) : G E cl sl ad dm a b r pc (e0 :: e1 :: e2 :: e3 :: e4 :: e5 :: e6 :: e7 :: e8 :: e9 :: t) (.ref x :: rest) := fun H L ls hW hS hl => lv_astore C.1 C.2.1 d hl hn rfl (fun ls' h' => by
  subst hq
  refine k H L ls' hW hS (lh_st h' ho (fun w h => by cases h; rfl) (fun j w hj h => ?_))
  iterate 10 (rcases j with _ | j; (first | exact absurd rfl hj | exact h | exact absurd rfl hj2))
  exact h)
theorem g_lstore_9 {e0 e1 e2 e3 e4 e5 e6 e7 e8 e9 : Option Value} {f : Option Value} {x : Int64} {t : List (Option Value)} (C : CX E cc own lev) (d : decode cc pc = .ok (.lstore 9, 2)) (hq : pc + 2 = q) (hn : 10 < eN E) (ho : okst (e0 :: e1 :: e2 :: e3 :: e4 :: e5 :: e6 :: e7 :: e8 :: e9 :: f :: t) 9 = true) (k : G E cl sl ad dm a b r q (e0 :: e1 :: e2 :: e3 :: e4 :: e5 :: e6 :: e7 :: e8 :: some (.long x) :: none :: t) rest) : G E cl sl ad dm a b r pc (e0 :: e1 :: e2 :: e3 :: e4 :: e5 :: e6 :: e7 :: e8 :: e9 :: f :: t) (.long x :: rest) := fun H L ls hW hS hl => lv_lstore C.1 C.2.1 d hl hn rfl (fun ls' h' => by
  subst hq
  refine k H L ls' hW hS (lh_st2 h' ho (fun w h => by cases h; rfl) (fun w h => by cases h) (fun j w hj hj2 h => ?_))
  iterate 11 (rcases j with _ | j; (first | exact absurd rfl hj | exact h | exact absurd rfl hj2))
  exact h)
theorem g_istore_10 {e0 e1 e2 e3 e4 e5 e6 e7 e8 e9 e10 : Option Value} {x : Int32} {t : List (Option Value)} (C : CX E cc own lev) (d : decode cc pc = .ok (.istore 10, 2)) (hq : pc + 2 = q) (hn : 10 < eN E) (ho : okst (e0 :: e1 :: e2 :: e3 :: e4 :: e5 :: e6 :: e7 :: e8 :: e9 :: e10 :: t) 10 = true) (k : G E cl sl ad dm a b r q (e0 :: e1 :: e2 :: e3 :: e4 :: e5 :: e6 :: e7 :: e8 :: e9 :: some (.int x) :: t) rest) : G E cl sl ad dm a b r pc (e0 :: e1 :: e2 :: e3 :: e4 :: e5 :: e6 :: e7 :: e8 :: e9 :: e10 :: t) (.int x :: rest) := fun H L ls hW hS hl => lv_istore C.1 C.2.1 d hl hn rfl (fun ls' h' => by
  subst hq
  refine k H L ls' hW hS (lh_st h' ho (fun w h => by cases h; rfl) (fun j w hj h => ?_))
  iterate 11 (rcases j with _ | j; (first | exact absurd rfl hj | exact h | exact absurd rfl hj2))
  exact h)
theorem g_astore_10 {e0 e1 e2 e3 e4 e5 e6 e7 e8 e9 e10 : Option Value} {x : Nat} {t : List (Option Value)} (C : CX E cc own lev) (d : decode cc pc = .ok (.astore 10, 2)) (hq : pc + 2 = q) (hn : 10 < eN E) (ho : okst (e0 :: e1 :: e2 :: e3 :: e4 :: e5 :: e6 :: e7 :: e8 :: e9 :: e10 :: t) 10 = true) (k : G E cl sl ad dm a b r q (e0 :: e1 :: e2 :: e3 :: e4 :: e5 :: e6 :: e7 :: e8 :: e9 :: some (.ref x) :: t) rest) : G E cl sl ad dm a b r pc (e0 :: e1 :: e2 :: e3 :: e4 :: e5 :: e6 :: e7 :: e8 :: e9 :: e10 :: t) (.ref x :: rest) := fun H L ls hW hS hl => lv_astore C.1 C.2.1 d hl hn rfl (fun ls' h' => by
  subst hq
  refine k H L ls' hW hS (lh_st h' ho (fun w h => by cases h; rfl) (fun j w hj h => ?_))
  iterate 11 (rcases j with _ | j; (first | exact absurd rfl hj | exact h | exact absurd rfl hj2))
  exact h)
theorem g_lstore_10 {e0 e1 e2 e3 e4 e5 e6 e7 e8 e9 e10 : Option Value} {f : Option Value} {x : Int64} {t : List (Option Value)} (C : CX E cc own lev) (d : decode cc pc = .ok (.lstore 10, 2)) (hq : pc + 2 = q) (hn : 11 < eN E) (ho : okst (e0 :: e1 :: e2 :: e3 :: e4 :: e5 :: e6 :: e7 :: e8 :: e9 :: e10 :: f :: t) 10 = true) (k : G E cl sl ad dm a b r q (e0 :: e1 :: e2 :: e3 :: e4 :: e5 :: e6 :: e7 :: e8 :: e9 :: some (.long x) :: none :: t) rest) : G E cl sl ad dm a b r pc (e0 :: e1 :: e2 :: e3 :: e4 :: e5 :: e6 :: e7 :: e8 :: e9 :: e10 :: f :: t) (.long x :: rest) := fun H L ls hW hS hl => lv_lstore C.1 C.2.1 d hl hn rfl (fun ls' h' => by
  subst hq
  refine k H L ls' hW hS (lh_st2 h' ho (fun w h => by cases h; rfl) (fun w h => by cases h) (fun j w hj hj2 h => ?_))
  iterate 12 (rcases j with _ | j; (first | exact absurd rfl hj | exact h | exact absurd rfl hj2))
  exact h)
theorem g_istore_11 {e0 e1 e2 e3 e4 e5 e6 e7 e8 e9 e10 e11 : Option Value} {x : Int32} {t : List (Option Value)} (C : CX E cc own lev) (d : decode cc pc = .ok (.istore 11, 2)) (hq : pc + 2 = q) (hn : 11 < eN E) (ho : okst (e0 :: e1 :: e2 :: e3 :: e4 :: e5 :: e6 :: e7 :: e8 :: e9 :: e10 :: e11 :: t) 11 = true) (k : G E cl sl ad dm a b r q (e0 :: e1 :: e2 :: e3 :: e4 :: e5 :: e6 :: e7 :: e8 :: e9 :: e10 :: some (.int x) :: t) rest) : G E cl sl ad dm a b r pc (e0 :: e1 :: e2 :: e3 :: e4 :: e5 :: e6 :: e7 :: e8 :: e9 :: e10 :: e11 :: t) (.int x :: rest) := fun H L ls hW hS hl => lv_istore C.1 C.2.1 d hl hn rfl (fun ls' h' => by
  subst hq
  refine k H L ls' hW hS (lh_st h' ho (fun w h => by cases h; rfl) (fun j w hj h => ?_))
  iterate 12 (rcases j with _ | j; (first | exact absurd rfl hj | exact h | exact absurd rfl hj2))
  exact h)
theorem g_astore_11 {e0 e1 e2 e3 e4 e5 e6 e7 e8 e9 e10 e11 : Option Value} {x : Nat} {t : List (Option Value)} (C : CX E cc own lev) (d : decode cc pc = .ok (.astore 11, 2)) (hq : pc + 2 = q) (hn : 11 < eN E) (ho : okst (e0 :: e1 :: e2 :: e3 :: e4 :: e5 :: e6 :: e7 :: e8 :: e9 :: e10 :: e11 :: t) 11 = true) (k : G E cl sl ad dm a b r q (e0 :: e1 :: e2 :: e3 :: e4 :: e5 :: e6 :: e7 :: e8 :: e9 :: e10 :: some (.ref x) :: t) rest) : G E cl sl ad dm a b r pc (e0 :: e1 :: e2 :: e3 :: e4 :: e5 :: e6 :: e7 :: e8 :: e9 :: e10 :: e11 :: t) (.ref x :: rest) := fun H L ls hW hS hl => lv_astore C.1 C.2.1 d hl hn rfl (fun ls' h' => by
  subst hq
  refine k H L ls' hW hS (lh_st h' ho (fun w h => by cases h; rfl) (fun j w hj h => ?_))
  iterate 12 (rcases j with _ | j; (first | exact absurd rfl hj | exact h | exact absurd rfl hj2))
  exact h)
theorem g_lstore_11 {e0 e1 e2 e3 e4 e5 e6 e7 e8 e9 e10 e11 : Option Value} {f : Option Value} {x : Int64} {t : List (Option Value)} (C : CX E cc own lev) (d : decode cc pc = .ok (.lstore 11, 2)) (hq : pc + 2 = q) (hn : 12 < eN E) (ho : okst (e0 :: e1 :: e2 :: e3 :: e4 :: e5 :: e6 :: e7 :: e8 :: e9 :: e10 :: e11 :: f :: t) 11 = true) (k : G E cl sl ad dm a b r q (e0 :: e1 :: e2 :: e3 :: e4 :: e5 :: e6 :: e7 :: e8 :: e9 :: e10 :: some (.long x) :: none :: t) rest) : G E cl sl ad dm a b r pc (e0 :: e1 :: e2 :: e3 :: e4 :: e5 :: e6 :: e7 :: e8 :: e9 :: e10 :: e11 :: f :: t) (.long x :: rest) := fun H L ls hW hS hl => lv_lstore C.1 C.2.1 d hl hn rfl (fun ls' h' => by
  subst hq
  refine k H L ls' hW hS (lh_st2 h' ho (fun w h => by cases h; rfl) (fun w h => by cases h) (fun j w hj hj2 h => ?_))
  iterate 13 (rcases j with _ | j; (first | exact absurd rfl hj | exact h | exact absurd rfl hj2))
  exact h)
theorem g_istore_12 {e0 e1 e2 e3 e4 e5 e6 e7 e8 e9 e10 e11 e12 : Option Value} {x : Int32} {t : List (Option Value)} (C : CX E cc own lev) (d : decode cc pc = .ok (.istore 12, 2)) (hq : pc + 2 = q) (hn : 12 < eN E) (ho : okst (e0 :: e1 :: e2 :: e3 :: e4 :: e5 :: e6 :: e7 :: e8 :: e9 :: e10 :: e11 :: e12 :: t) 12 = true) (k : G E cl sl ad dm a b r q (e0 :: e1 :: e2 :: e3 :: e4 :: e5 :: e6 :: e7 :: e8 :: e9 :: e10 :: e11 :: some (.int x) :: t) rest) : G E cl sl ad dm a b r pc (e0 :: e1 :: e2 :: e3 :: e4 :: e5 :: e6 :: e7 :: e8 :: e9 :: e10 :: e11 :: e12 :: t) (.int x :: rest) := fun H L ls hW hS hl => lv_istore C.1 C.2.1 d hl hn rfl (fun ls' h' => by
  subst hq
  refine k H L ls' hW hS (lh_st h' ho (fun w h => by cases h; rfl) (fun j w hj h => ?_))
  iterate 13 (rcases j with _ | j; (first | exact absurd rfl hj | exact h | exact absurd rfl hj2))
  exact h)
theorem g_astore_12 {e0 e1 e2 e3 e4 e5 e6 e7 e8 e9 e10 e11 e12 : Option Value} {x : Nat} {t : List (Option Value)} (C : CX E cc own lev) (d : decode cc pc = .ok (.astore 12, 2)) (hq : pc + 2 = q) (hn : 12 < eN E) (ho : okst (e0 :: e1 :: e2 :: e3 :: e4 :: e5 :: e6 :: e7 :: e8 :: e9 :: e10 :: e11 :: e12 :: t) 12 = true) (k : G E cl sl ad dm a b r q (e0 :: e1 :: e2 :: e3 :: e4 :: e5 :: e6 :: e7 :: e8 :: e9 :: e10 :: e11 :: some (.ref x) :: t) rest) : G E cl sl ad dm a b r pc (e0 :: e1 :: e2 :: e3 :: e4 :: e5 :: e6 :: e7 :: e8 :: e9 :: e10 :: e11 :: e12 :: t) (.ref x :: rest) := fun H L ls hW hS hl => lv_astore C.1 C.2.1 d hl hn rfl (fun ls' h' => by
  subst hq
  refine k H L ls' hW hS (lh_st h' ho (fun w h => by cases h; rfl) (fun j w hj h => ?_))
  iterate 13 (rcases j with _ | j; (first | exact absurd rfl hj | exact h | exact absurd rfl hj2))
  exact h)
theorem g_lstore_12 {e0 e1 e2 e3 e4 e5 e6 e7 e8 e9 e10 e11 e12 : Option Value} {f : Option Value} {x : Int64} {t : List (Option Value)} (C : CX E cc own lev) (d : decode cc pc = .ok (.lstore 12, 2)) (hq : pc + 2 = q) (hn : 13 < eN E) (ho : okst (e0 :: e1 :: e2 :: e3 :: e4 :: e5 :: e6 :: e7 :: e8 :: e9 :: e10 :: e11 :: e12 :: f :: t) 12 = true) (k : G E cl sl ad dm a b r q (e0 :: e1 :: e2 :: e3 :: e4 :: e5 :: e6 :: e7 :: e8 :: e9 :: e10 :: e11 :: some (.long x) :: none :: t) rest) : G E cl sl ad dm a b r pc (e0 :: e1 :: e2 :: e3 :: e4 :: e5 :: e6 :: e7 :: e8 :: e9 :: e10 :: e11 :: e12 :: f :: t) (.long x :: rest) := fun H L ls hW hS hl => lv_lstore C.1 C.2.1 d hl hn rfl (fun ls' h' => by
  subst hq
  refine k H L ls' hW hS (lh_st2 h' ho (fun w h => by cases h; rfl) (fun w h => by cases h) (fun j w hj hj2 h => ?_))
  iterate 14 (rcases j with _ | j; (first | exact absurd rfl hj | exact h | exact absurd rfl hj2))
  exact h)
theorem g_astore_1N {e0 e1 : Option Value} {t : List (Option Value)} (C : CX E cc own lev) (d : decode cc pc = .ok (.astore_n 1, 1)) (hq : pc + 1 = q) (hn : 1 < eN E) (ho : okst (e0 :: e1 :: t) 1 = true) (k : G E cl sl ad dm a b r q (e0 :: some .null :: t) rest) : G E cl sl ad dm a b r pc (e0 :: e1 :: t) (.null :: rest) := fun H L ls hW hS hl => lv_astore_nN C.1 C.2.1 d rfl hl hn rfl (fun ls' h' => by
  subst hq
  refine k H L ls' hW hS (lh_st h' ho (fun w h => by cases h; rfl) (fun j w hj h => ?_))
  iterate 2 (rcases j with _ | j; (first | exact absurd rfl hj | exact h))
  exact h)
theorem g_astore_2N {e0 e1 e2 : Option Value} {t : List (Option Value)} (C : CX E cc own lev) (d : decode cc pc = .ok (.astore_n 2, 1)) (hq : pc + 1 = q) (hn : 2 < eN E) (ho : okst (e0 :: e1 :: e2 :: t) 2 = true) (k : G E cl sl ad dm a b r q (e0 :: e1 :: some .null :: t) rest) : G E cl sl ad dm a b r pc (e0 :: e1 :: e2 :: t) (.null :: rest) := fun H L ls hW hS hl => lv_astore_nN C.1 C.2.1 d rfl hl hn rfl (fun ls' h' => by
  subst hq
  refine k H L ls' hW hS (lh_st h' ho (fun w h => by cases h; rfl) (fun j w hj h => ?_))
  iterate 3 (rcases j with _ | j; (first | exact absurd rfl hj | exact h))
  exact h)
theorem g_astore_3N {e0 e1 e2 e3 : Option Value} {t : List (Option Value)} (C : CX E cc own lev) (d : decode cc pc = .ok (.astore_n 3, 1)) (hq : pc + 1 = q) (hn : 3 < eN E) (ho : okst (e0 :: e1 :: e2 :: e3 :: t) 3 = true) (k : G E cl sl ad dm a b r q (e0 :: e1 :: e2 :: some .null :: t) rest) : G E cl sl ad dm a b r pc (e0 :: e1 :: e2 :: e3 :: t) (.null :: rest) := fun H L ls hW hS hl => lv_astore_nN C.1 C.2.1 d rfl hl hn rfl (fun ls' h' => by
  subst hq
  refine k H L ls' hW hS (lh_st h' ho (fun w h => by cases h; rfl) (fun j w hj h => ?_))
  iterate 4 (rcases j with _ | j; (first | exact absurd rfl hj | exact h))
  exact h)
theorem g_astore_4N {e0 e1 e2 e3 e4 : Option Value} {t : List (Option Value)} (C : CX E cc own lev) (d : decode cc pc = .ok (.astore 4, 2)) (hq : pc + 2 = q) (hn : 4 < eN E) (ho : okst (e0 :: e1 :: e2 :: e3 :: e4 :: t) 4 = true) (k : G E cl sl ad dm a b r q (e0 :: e1 :: e2 :: e3 :: some .null :: t) rest) : G E cl sl ad dm a b r pc (e0 :: e1 :: e2 :: e3 :: e4 :: t) (.null :: rest) := fun H L ls hW hS hl => lv_astoreN C.1 C.2.1 d hl hn rfl (fun ls' h' => by
  subst hq
  refine k H L ls' hW hS (lh_st h' ho (fun w h => by cases h; rfl) (fun j w hj h => ?_))
  iterate 5 (rcases j with _ | j; (first | exact absurd rfl hj | exact h))
  exact h)
theorem g_astore_5N {e0 e1 e2 e3 e4 e5 : Option Value} {t : List (Option Value)} (C : CX E cc own lev) (d : decode cc pc = .ok (.astore 5, 2)) (hq : pc + 2 = q) (hn : 5 < eN E) (ho : okst (e0 :: e1 :: e2 :: e3 :: e4 :: e5 :: t) 5 = true) (k : G E cl sl ad dm a b r q (e0 :: e1 :: e2 :: e3 :: e4 :: some .null :: t) rest) : G E cl sl ad dm a b r pc (e0 :: e1 :: e2 :: e3 :: e4 :: e5 :: t) (.null :: rest) := fun H L ls hW hS hl => lv_astoreN C.1 C.2.1 d hl hn rfl (fun ls' h' => by
  subst hq
  refine k H L ls' hW hS (lh_st h' ho (fun w h => by cases h; rfl) (fun j w hj h => ?_))
  iterate 6 (rcases j with _ | j; (first | exact absurd rfl hj | exact h))
  exact h)
theorem g_astore_6N {e0 e1 e2 e3 e4 e5 e6 : Option Value} {t : List (Option Value)} (C : CX E cc own lev) (d : decode cc pc = .ok (.astore 6, 2)) (hq : pc + 2 = q) (hn : 6 < eN E) (ho : okst (e0 :: e1 :: e2 :: e3 :: e4 :: e5 :: e6 :: t) 6 = true) (k : G E cl sl ad dm a b r q (e0 :: e1 :: e2 :: e3 :: e4 :: e5 :: some .null :: t) rest) : G E cl sl ad dm a b r pc (e0 :: e1 :: e2 :: e3 :: e4 :: e5 :: e6 :: t) (.null :: rest) := fun H L ls hW hS hl => lv_astoreN C.1 C.2.1 d hl hn rfl (fun ls' h' => by
  subst hq
  refine k H L ls' hW hS (lh_st h' ho (fun w h => by cases h; rfl) (fun j w hj h => ?_))
  iterate 7 (rcases j with _ | j; (first | exact absurd rfl hj | exact h))
  exact h)
theorem g_astore_7N {e0 e1 e2 e3 e4 e5 e6 e7 : Option Value} {t : List (Option Value)} (C : CX E cc own lev) (d : decode cc pc = .ok (.astore 7, 2)) (hq : pc + 2 = q) (hn : 7 < eN E) (ho : okst (e0 :: e1 :: e2 :: e3 :: e4 :: e5 :: e6 :: e7 :: t) 7 = true) (k : G E cl sl ad dm a b r q (e0 :: e1 :: e2 :: e3 :: e4 :: e5 :: e6 :: some .null :: t) rest) : G E cl sl ad dm a b r pc (e0 :: e1 :: e2 :: e3 :: e4 :: e5 :: e6 :: e7 :: t) (.null :: rest) := fun H L ls hW hS hl => lv_astoreN C.1 C.2.1 d hl hn rfl (fun ls' h' => by
  subst hq
  refine k H L ls' hW hS (lh_st h' ho (fun w h => by cases h; rfl) (fun j w hj h => ?_))
  iterate 8 (rcases j with _ | j; (first | exact absurd rfl hj | exact h))
  exact h)
theorem g_astore_8N {e0 e1 e2 e3 e4 e5 e6 e7 e8 : Option Value} {t : List (Option Value)} (C : CX E cc own lev) (d : decode cc pc = .ok (.astore 8, 2)) (hq : pc + 2 = q) (hn : 8 < eN E) (ho : okst (e0 :: e1 :: e2 :: e3 :: e4 :: e5 :: e6 :: e7 :: e8 :: t) 8 = true) (k : G E cl sl ad dm a b r q (e0 :: e1 :: e2 :: e3 :: e4 :: e5 :: e6 :: e7 :: some .null :: t) rest) : G E cl sl ad dm a b r pc (e0 :: e1 :: e2 :: e3 :: e4 :: e5 :: e6 :: e7 :: e8 :: t) (.null :: rest) := fun H L ls hW hS hl => lv_astoreN C.1 C.2.1 d hl hn rfl (fun ls' h' => by
  subst hq
  refine k H L ls' hW hS (lh_st h' ho (fun w h => by cases h; rfl) (fun j w hj h => ?_))
  iterate 9 (rcases j with _ | j; (first | exact absurd rfl hj | exact h))
  exact h)
theorem g_astore_9N {e0 e1 e2 e3 e4 e5 e6 e7 e8 e9 : Option Value} {t : List (Option Value)} (C : CX E cc own lev) (d : decode cc pc = .ok (.astore 9, 2)) (hq : pc + 2 = q) (hn : 9 < eN E) (ho : okst (e0 :: e1 :: e2 :: e3 :: e4 :: e5 :: e6 :: e7 :: e8 :: e9 :: t) 9 = true) (k : G E cl sl ad dm a b r q (e0 :: e1 :: e2 :: e3 :: e4 :: e5 :: e6 :: e7 :: e8 :: some .null :: t) rest) : G E cl sl ad dm a b r pc (e0 :: e1 :: e2 :: e3 :: e4 :: e5 :: e6 :: e7 :: e8 :: e9 :: t) (.null :: rest) := fun H L ls hW hS hl => lv_astoreN C.1 C.2.1 d hl hn rfl (fun ls' h' => by
  subst hq
  refine k H L ls' hW hS (lh_st h' ho (fun w h => by cases h; rfl) (fun j w hj h => ?_))
  iterate 10 (rcases j with _ | j; (first | exact absurd rfl hj | exact h))
  exact h)
theorem g_astore_10N {e0 e1 e2 e3 e4 e5 e6 e7 e8 e9 e10 : Option Value} {t : List (Option Value)} (C : CX E cc own lev) (d : decode cc pc = .ok (.astore 10, 2)) (hq : pc + 2 = q) (hn : 10 < eN E) (ho : okst (e0 :: e1 :: e2 :: e3 :: e4 :: e5 :: e6 :: e7 :: e8 :: e9 :: e10 :: t) 10 = true) (k : G E cl sl ad dm a b r q (e0 :: e1 :: e2 :: e3 :: e4 :: e5 :: e6 :: e7 :: e8 :: e9 :: some .null :: t) rest) : G E cl sl ad dm a b r pc (e0 :: e1 :: e2 :: e3 :: e4 :: e5 :: e6 :: e7 :: e8 :: e9 :: e10 :: t) (.null :: rest) := fun H L ls hW hS hl => lv_astoreN C.1 C.2.1 d hl hn rfl (fun ls' h' => by
  subst hq
  refine k H L ls' hW hS (lh_st h' ho (fun w h => by cases h; rfl) (fun j w hj h => ?_))
  iterate 11 (rcases j with _ | j; (first | exact absurd rfl hj | exact h))
  exact h)
theorem g_astore_11N {e0 e1 e2 e3 e4 e5 e6 e7 e8 e9 e10 e11 : Option Value} {t : List (Option Value)} (C : CX E cc own lev) (d : decode cc pc = .ok (.astore 11, 2)) (hq : pc + 2 = q) (hn : 11 < eN E) (ho : okst (e0 :: e1 :: e2 :: e3 :: e4 :: e5 :: e6 :: e7 :: e8 :: e9 :: e10 :: e11 :: t) 11 = true) (k : G E cl sl ad dm a b r q (e0 :: e1 :: e2 :: e3 :: e4 :: e5 :: e6 :: e7 :: e8 :: e9 :: e10 :: some .null :: t) rest) : G E cl sl ad dm a b r pc (e0 :: e1 :: e2 :: e3 :: e4 :: e5 :: e6 :: e7 :: e8 :: e9 :: e10 :: e11 :: t) (.null :: rest) := fun H L ls hW hS hl => lv_astoreN C.1 C.2.1 d hl hn rfl (fun ls' h' => by
  subst hq
  refine k H L ls' hW hS (lh_st h' ho (fun w h => by cases h; rfl) (fun j w hj h => ?_))
  iterate 12 (rcases j with _ | j; (first | exact absurd rfl hj | exact h))
  exact h)
theorem g_astore_12N {e0 e1 e2 e3 e4 e5 e6 e7 e8 e9 e10 e11 e12 : Option Value} {t : List (Option Value)} (C : CX E cc own lev) (d : decode cc pc = .ok (.astore 12, 2)) (hq : pc + 2 = q) (hn : 12 < eN E) (ho : okst (e0 :: e1 :: e2 :: e3 :: e4 :: e5 :: e6 :: e7 :: e8 :: e9 :: e10 :: e11 :: e12 :: t) 12 = true) (k : G E cl sl ad dm a b r q (e0 :: e1 :: e2 :: e3 :: e4 :: e5 :: e6 :: e7 :: e8 :: e9 :: e10 :: e11 :: some .null :: t) rest) : G E cl sl ad dm a b r pc (e0 :: e1 :: e2 :: e3 :: e4 :: e5 :: e6 :: e7 :: e8 :: e9 :: e10 :: e11 :: e12 :: t) (.null :: rest) := fun H L ls hW hS hl => lv_astoreN C.1 C.2.1 d hl hn rfl (fun ls' h' => by
  subst hq
  refine k H L ls' hW hS (lh_st h' ho (fun w h => by cases h; rfl) (fun j w hj h => ?_))
  iterate 13 (rcases j with _ | j; (first | exact absurd rfl hj | exact h))
  exact h)
theorem g_iinc_1 {e0 : Option Value} {n : Int} {x v : Int32} {t : List (Option Value)} (C : CX E cc own lev) (d : decode cc pc = .ok (.iinc 1 n, 3)) (hq : pc + 3 = q) (hn : 1 < eN E) (hv : x + Int32.ofInt n = v) (k : G E cl sl ad dm a b r q (e0 :: some (.int v) :: t) rest) (ho : okst (e0 :: some (.int x) :: t) 1 = true := by rfl) : G E cl sl ad dm a b r pc (e0 :: some (.int x) :: t) rest := fun H L ls hW hS hl => by
  have hm := las_mem (e0 :: some (.int x) :: t) 0 1 (.int x) rfl
  rw [Nat.zero_add] at hm
  obtain ⟨kk, hkk⟩ := List.getElem?_of_mem hm
  exact lv_iinc C.1 C.2.1 d hl hkk hv hn rfl (fun ls' h' => by
    subst hq
    refine k H L ls' hW hS (lh_st h' ho (fun w h => by cases h; rfl) (fun j w hj h => ?_))
    iterate 2 (rcases j with _ | j; (first | exact absurd rfl hj | exact h))
    exact h)
theorem g_iinc_2 {e0 e1 : Option Value} {n : Int} {x v : Int32} {t : List (Option Value)} (C : CX E cc own lev) (d : decode cc pc = .ok (.iinc 2 n, 3)) (hq : pc + 3 = q) (hn : 2 < eN E) (hv : x + Int32.ofInt n = v) (k : G E cl sl ad dm a b r q (e0 :: e1 :: some (.int v) :: t) rest) (ho : okst (e0 :: e1 :: some (.int x) :: t) 2 = true := by rfl) : G E cl sl ad dm a b r pc (e0 :: e1 :: some (.int x) :: t) rest := fun H L ls hW hS hl => by
  have hm := las_mem (e0 :: e1 :: some (.int x) :: t) 0 2 (.int x) rfl
  rw [Nat.zero_add] at hm
  obtain ⟨kk, hkk⟩ := List.getElem?_of_mem hm
  exact lv_iinc C.1 C.2.1 d hl hkk hv hn rfl (fun ls' h' => by
    subst hq
    refine k H L ls' hW hS (lh_st h' ho (fun w h => by cases h; rfl) (fun j w hj h => ?_))
    iterate 3 (rcases j with _ | j; (first | exact absurd rfl hj | exact h))
    exact h)
theorem g_iinc_3 {e0 e1 e2 : Option Value} {n : Int} {x v : Int32} {t : List (Option Value)} (C : CX E cc own lev) (d : decode cc pc = .ok (.iinc 3 n, 3)) (hq : pc + 3 = q) (hn : 3 < eN E) (hv : x + Int32.ofInt n = v) (k : G E cl sl ad dm a b r q (e0 :: e1 :: e2 :: some (.int v) :: t) rest) (ho : okst (e0 :: e1 :: e2 :: some (.int x) :: t) 3 = true := by rfl) : G E cl sl ad dm a b r pc (e0 :: e1 :: e2 :: some (.int x) :: t) rest := fun H L ls hW hS hl => by
  have hm := las_mem (e0 :: e1 :: e2 :: some (.int x) :: t) 0 3 (.int x) rfl
  rw [Nat.zero_add] at hm
  obtain ⟨kk, hkk⟩ := List.getElem?_of_mem hm
  exact lv_iinc C.1 C.2.1 d hl hkk hv hn rfl (fun ls' h' => by
    subst hq
    refine k H L ls' hW hS (lh_st h' ho (fun w h => by cases h; rfl) (fun j w hj h => ?_))
    iterate 4 (rcases j with _ | j; (first | exact absurd rfl hj | exact h))
    exact h)
theorem g_iinc_4 {e0 e1 e2 e3 : Option Value} {n : Int} {x v : Int32} {t : List (Option Value)} (C : CX E cc own lev) (d : decode cc pc = .ok (.iinc 4 n, 3)) (hq : pc + 3 = q) (hn : 4 < eN E) (hv : x + Int32.ofInt n = v) (k : G E cl sl ad dm a b r q (e0 :: e1 :: e2 :: e3 :: some (.int v) :: t) rest) (ho : okst (e0 :: e1 :: e2 :: e3 :: some (.int x) :: t) 4 = true := by rfl) : G E cl sl ad dm a b r pc (e0 :: e1 :: e2 :: e3 :: some (.int x) :: t) rest := fun H L ls hW hS hl => by
  have hm := las_mem (e0 :: e1 :: e2 :: e3 :: some (.int x) :: t) 0 4 (.int x) rfl
  rw [Nat.zero_add] at hm
  obtain ⟨kk, hkk⟩ := List.getElem?_of_mem hm
  exact lv_iinc C.1 C.2.1 d hl hkk hv hn rfl (fun ls' h' => by
    subst hq
    refine k H L ls' hW hS (lh_st h' ho (fun w h => by cases h; rfl) (fun j w hj h => ?_))
    iterate 5 (rcases j with _ | j; (first | exact absurd rfl hj | exact h))
    exact h)
theorem g_iinc_5 {e0 e1 e2 e3 e4 : Option Value} {n : Int} {x v : Int32} {t : List (Option Value)} (C : CX E cc own lev) (d : decode cc pc = .ok (.iinc 5 n, 3)) (hq : pc + 3 = q) (hn : 5 < eN E) (hv : x + Int32.ofInt n = v) (k : G E cl sl ad dm a b r q (e0 :: e1 :: e2 :: e3 :: e4 :: some (.int v) :: t) rest) (ho : okst (e0 :: e1 :: e2 :: e3 :: e4 :: some (.int x) :: t) 5 = true := by rfl) : G E cl sl ad dm a b r pc (e0 :: e1 :: e2 :: e3 :: e4 :: some (.int x) :: t) rest := fun H L ls hW hS hl => by
  have hm := las_mem (e0 :: e1 :: e2 :: e3 :: e4 :: some (.int x) :: t) 0 5 (.int x) rfl
  rw [Nat.zero_add] at hm
  obtain ⟨kk, hkk⟩ := List.getElem?_of_mem hm
  exact lv_iinc C.1 C.2.1 d hl hkk hv hn rfl (fun ls' h' => by
    subst hq
    refine k H L ls' hW hS (lh_st h' ho (fun w h => by cases h; rfl) (fun j w hj h => ?_))
    iterate 6 (rcases j with _ | j; (first | exact absurd rfl hj | exact h))
    exact h)
theorem g_iinc_6 {e0 e1 e2 e3 e4 e5 : Option Value} {n : Int} {x v : Int32} {t : List (Option Value)} (C : CX E cc own lev) (d : decode cc pc = .ok (.iinc 6 n, 3)) (hq : pc + 3 = q) (hn : 6 < eN E) (hv : x + Int32.ofInt n = v) (k : G E cl sl ad dm a b r q (e0 :: e1 :: e2 :: e3 :: e4 :: e5 :: some (.int v) :: t) rest) (ho : okst (e0 :: e1 :: e2 :: e3 :: e4 :: e5 :: some (.int x) :: t) 6 = true := by rfl) : G E cl sl ad dm a b r pc (e0 :: e1 :: e2 :: e3 :: e4 :: e5 :: some (.int x) :: t) rest := fun H L ls hW hS hl => by
  have hm := las_mem (e0 :: e1 :: e2 :: e3 :: e4 :: e5 :: some (.int x) :: t) 0 6 (.int x) rfl
  rw [Nat.zero_add] at hm
  obtain ⟨kk, hkk⟩ := List.getElem?_of_mem hm
  exact lv_iinc C.1 C.2.1 d hl hkk hv hn rfl (fun ls' h' => by
    subst hq
    refine k H L ls' hW hS (lh_st h' ho (fun w h => by cases h; rfl) (fun j w hj h => ?_))
    iterate 7 (rcases j with _ | j; (first | exact absurd rfl hj | exact h))
    exact h)
theorem g_iinc_7 {e0 e1 e2 e3 e4 e5 e6 : Option Value} {n : Int} {x v : Int32} {t : List (Option Value)} (C : CX E cc own lev) (d : decode cc pc = .ok (.iinc 7 n, 3)) (hq : pc + 3 = q) (hn : 7 < eN E) (hv : x + Int32.ofInt n = v) (k : G E cl sl ad dm a b r q (e0 :: e1 :: e2 :: e3 :: e4 :: e5 :: e6 :: some (.int v) :: t) rest) (ho : okst (e0 :: e1 :: e2 :: e3 :: e4 :: e5 :: e6 :: some (.int x) :: t) 7 = true := by rfl) : G E cl sl ad dm a b r pc (e0 :: e1 :: e2 :: e3 :: e4 :: e5 :: e6 :: some (.int x) :: t) rest := fun H L ls hW hS hl => by
  have hm := las_mem (e0 :: e1 :: e2 :: e3 :: e4 :: e5 :: e6 :: some (.int x) :: t) 0 7 (.int x) rfl
  rw [Nat.zero_add] at hm
  obtain ⟨kk, hkk⟩ := List.getElem?_of_mem hm
  exact lv_iinc C.1 C.2.1 d hl hkk hv hn rfl (fun ls' h' => by
    subst hq
    refine k H L ls' hW hS (lh_st h' ho (fun w h => by cases h; rfl) (fun j w hj h => ?_))
    iterate 8 (rcases j with _ | j; (first | exact absurd rfl hj | exact h))
    exact h)
theorem g_iinc_8 {e0 e1 e2 e3 e4 e5 e6 e7 : Option Value} {n : Int} {x v : Int32} {t : List (Option Value)} (C : CX E cc own lev) (d : decode cc pc = .ok (.iinc 8 n, 3)) (hq : pc + 3 = q) (hn : 8 < eN E) (hv : x + Int32.ofInt n = v) (k : G E cl sl ad dm a b r q (e0 :: e1 :: e2 :: e3 :: e4 :: e5 :: e6 :: e7 :: some (.int v) :: t) rest) (ho : okst (e0 :: e1 :: e2 :: e3 :: e4 :: e5 :: e6 :: e7 :: some (.int x) :: t) 8 = true := by rfl) : G E cl sl ad dm a b r pc (e0 :: e1 :: e2 :: e3 :: e4 :: e5 :: e6 :: e7 :: some (.int x) :: t) rest := fun H L ls hW hS hl => by
  have hm := las_mem (e0 :: e1 :: e2 :: e3 :: e4 :: e5 :: e6 :: e7 :: some (.int x) :: t) 0 8 (.int x) rfl
  rw [Nat.zero_add] at hm
  obtain ⟨kk, hkk⟩ := List.getElem?_of_mem hm
  exact lv_iinc C.1 C.2.1 d hl hkk hv hn rfl (fun ls' h' => by
    subst hq
    refine k H L ls' hW hS (lh_st h' ho (fun w h => by cases h; rfl) (fun j w hj h => ?_))
    iterate 9 (rcases j with _ | j; (first | exact absurd rfl hj | exact h))
    exact h)
theorem g_iinc_9 {e0 e1 e2 e3 e4 e5 e6 e7 e8 : Option Value} {n : Int} {x v : Int32} {t : List (Option Value)} (C : CX E cc own lev) (d : decode cc pc = .ok (.iinc 9 n, 3)) (hq : pc + 3 = q) (hn : 9 < eN E) (hv : x + Int32.ofInt n = v) (k : G E cl sl ad dm a b r q (e0 :: e1 :: e2 :: e3 :: e4 :: e5 :: e6 :: e7 :: e8 :: some (.int v) :: t) rest) (ho : okst (e0 :: e1 :: e2 :: e3 :: e4 :: e5 :: e6 :: e7 :: e8 :: some (.int x) :: t) 9 = true := by rfl) : G E cl sl ad dm a b r pc (e0 :: e1 :: e2 :: e3 :: e4 :: e5 :: e6 :: e7 :: e8 :: some (.int x) :: t) rest := fun H L ls hW hS hl => by
  have hm := las_mem (e0 :: e1 :: e2 :: e3 :: e4 :: e5 :: e6 :: e7 :: e8 :: some (.int x) :: t) 0 9 (.int x) rfl
  rw [Nat.zero_add] at hm
  obtain ⟨kk, hkk⟩ := List.getElem?_of_mem hm
  exact lv_iinc C.1 C.2.1 d hl hkk hv hn rfl (fun ls' h' => by
    subst hq
    refine k H L ls' hW hS (lh_st h' ho (fun w h => by cases h; rfl) (fun j w hj h => ?_))
    iterate 10 (rcases j with _ | j; (first | exact absurd rfl hj | exact h))
    exact h)
theorem g_iinc_10 {e0 e1 e2 e3 e4 e5 e6 e7 e8 e9 : Option Value} {n : Int} {x v : Int32} {t : List (Option Value)} (C : CX E cc own lev) (d : decode cc pc = .ok (.iinc 10 n, 3)) (hq : pc + 3 = q) (hn : 10 < eN E) (hv : x + Int32.ofInt n = v) (k : G E cl sl ad dm a b r q (e0 :: e1 :: e2 :: e3 :: e4 :: e5 :: e6 :: e7 :: e8 :: e9 :: some (.int v) :: t) rest) (ho : okst (e0 :: e1 :: e2 :: e3 :: e4 :: e5 :: e6 :: e7 :: e8 :: e9 :: some (.int x) :: t) 10 = true := by rfl) : G E cl sl ad dm a b r pc (e0 :: e1 :: e2 :: e3 :: e4 :: e5 :: e6 :: e7 :: e8 :: e9 :: some (.int x) :: t) rest := fun H L ls hW hS hl => by
  have hm := las_mem (e0 :: e1 :: e2 :: e3 :: e4 :: e5 :: e6 :: e7 :: e8 :: e9 :: some (.int x) :: t) 0 10 (.int x) rfl
  rw [Nat.zero_add] at hm
  obtain ⟨kk, hkk⟩ := List.getElem?_of_mem hm
  exact lv_iinc C.1 C.2.1 d hl hkk hv hn rfl (fun ls' h' => by
    subst hq
    refine k H L ls' hW hS (lh_st h' ho (fun w h => by cases h; rfl) (fun j w hj h => ?_))
    iterate 11 (rcases j with _ | j; (first | exact absurd rfl hj | exact h))
    exact h)
theorem g_iinc_11 {e0 e1 e2 e3 e4 e5 e6 e7 e8 e9 e10 : Option Value} {n : Int} {x v : Int32} {t : List (Option Value)} (C : CX E cc own lev) (d : decode cc pc = .ok (.iinc 11 n, 3)) (hq : pc + 3 = q) (hn : 11 < eN E) (hv : x + Int32.ofInt n = v) (k : G E cl sl ad dm a b r q (e0 :: e1 :: e2 :: e3 :: e4 :: e5 :: e6 :: e7 :: e8 :: e9 :: e10 :: some (.int v) :: t) rest) (ho : okst (e0 :: e1 :: e2 :: e3 :: e4 :: e5 :: e6 :: e7 :: e8 :: e9 :: e10 :: some (.int x) :: t) 11 = true := by rfl) : G E cl sl ad dm a b r pc (e0 :: e1 :: e2 :: e3 :: e4 :: e5 :: e6 :: e7 :: e8 :: e9 :: e10 :: some (.int x) :: t) rest := fun H L ls hW hS hl => by
  have hm := las_mem (e0 :: e1 :: e2 :: e3 :: e4 :: e5 :: e6 :: e7 :: e8 :: e9 :: e10 :: some (.int x) :: t) 0 11 (.int x) rfl
  rw [Nat.zero_add] at hm
  obtain ⟨kk, hkk⟩ := List.getElem?_of_mem hm
  exact lv_iinc C.1 C.2.1 d hl hkk hv hn rfl (fun ls' h' => by
    subst hq
    refine k H L ls' hW hS (lh_st h' ho (fun w h => by cases h; rfl) (fun j w hj h => ?_))
    iterate 12 (rcases j with _ | j; (first | exact absurd rfl hj | exact h))
    exact h)
theorem g_iinc_12 {e0 e1 e2 e3 e4 e5 e6 e7 e8 e9 e10 e11 : Option Value} {n : Int} {x v : Int32} {t : List (Option Value)} (C : CX E cc own lev) (d : decode cc pc = .ok (.iinc 12 n, 3)) (hq : pc + 3 = q) (hn : 12 < eN E) (hv : x + Int32.ofInt n = v) (k : G E cl sl ad dm a b r q (e0 :: e1 :: e2 :: e3 :: e4 :: e5 :: e6 :: e7 :: e8 :: e9 :: e10 :: e11 :: some (.int v) :: t) rest) (ho : okst (e0 :: e1 :: e2 :: e3 :: e4 :: e5 :: e6 :: e7 :: e8 :: e9 :: e10 :: e11 :: some (.int x) :: t) 12 = true := by rfl) : G E cl sl ad dm a b r pc (e0 :: e1 :: e2 :: e3 :: e4 :: e5 :: e6 :: e7 :: e8 :: e9 :: e10 :: e11 :: some (.int x) :: t) rest := fun H L ls hW hS hl => by
  have hm := las_mem (e0 :: e1 :: e2 :: e3 :: e4 :: e5 :: e6 :: e7 :: e8 :: e9 :: e10 :: e11 :: some (.int x) :: t) 0 12 (.int x) rfl
  rw [Nat.zero_add] at hm
  obtain ⟨kk, hkk⟩ := List.getElem?_of_mem hm
  exact lv_iinc C.1 C.2.1 d hl hkk hv hn rfl (fun ls' h' => by
    subst hq
    refine k H L ls' hW hS (lh_st h' ho (fun w h => by cases h; rfl) (fun j w hj h => ?_))
    iterate 13 (rcases j with _ | j; (first | exact absurd rfl hj | exact h))
    exact h)
theorem g_if_eq {x : Int32} {off : Int} {tgt : Nat} (C : CX E cc own lev) (d : decode cc pc = .ok (.ifCond .eq off, 3)) (hq : pc + 3 = q) (ht : (pc : Int) + off = (tgt : Int)) (kt : x = 0 → G E cl sl ad dm a b r tgt lo rest) (kf : ¬ x = 0 → G E cl sl ad dm a b r q lo rest) : G E cl sl ad dm a b r pc lo (.int x :: rest) := fun H L ls hW hS hl => lv_if_eq C.1 C.2.1 d ht (fun h => kt h H L ls hW hS hl) (fun h => by subst hq; exact kf h H L ls hW hS hl)
theorem g_if_ne {x : Int32} {off : Int} {tgt : Nat} (C : CX E cc own lev) (d : decode cc pc = .ok (.ifCond .ne off, 3)) (hq : pc + 3 = q) (ht : (pc : Int) + off = (tgt : Int)) (kt : ¬ x = 0 → G E cl sl ad dm a b r tgt lo rest) (kf : x = 0 → G E cl sl ad dm a b r q lo rest) : G E cl sl ad dm a b r pc lo (.int x :: rest) := fun H L ls hW hS hl => lv_if_ne C.1 C.2.1 d ht (fun h => kt h H L ls hW hS hl) (fun h => by subst hq; exact kf h H L ls hW hS hl)
theorem g_if_lt {x : Int32} {off : Int} {tgt : Nat} (C : CX E cc own lev) (d : decode cc pc = .ok (.ifCond .lt off, 3)) (hq : pc + 3 = q) (ht : (pc : Int) + off = (tgt : Int)) (kt : x < 0 → G E cl sl ad dm a b r tgt lo rest) (kf : ¬ x < 0 → G E cl sl ad dm a b r q lo rest) : G E cl sl ad dm a b r pc lo (.int x :: rest) := fun H L ls hW hS hl => lv_if_lt C.1 C.2.1 d ht (fun h => kt h H L ls hW hS hl) (fun h => by subst hq; exact kf h H L ls hW hS hl)
theorem g_if_ge {x : Int32} {off : Int} {tgt : Nat} (C : CX E cc own lev) (d : decode cc pc = .ok (.ifCond .ge off, 3)) (hq : pc + 3 = q) (ht : (pc : Int) + off = (tgt : Int)) (kt : 0 ≤ x → G E cl sl ad dm a b r tgt lo rest) (kf : ¬ 0 ≤ x → G E cl sl ad dm a b r q lo rest) : G E cl sl ad dm a b r pc lo (.int x :: rest) := fun H L ls hW hS hl => lv_if_ge C.1 C.2.1 d ht (fun h => kt h H L ls hW hS hl) (fun h => by subst hq; exact kf h H L ls hW hS hl)
theorem g_if_gt {x : Int32} {off : Int} {tgt : Nat} (C : CX E cc own lev) (d : decode cc pc = .ok (.ifCond .gt off, 3)) (hq : pc + 3 = q) (ht : (pc : Int) + off = (tgt : Int)) (kt : 0 < x → G E cl sl ad dm a b r tgt lo rest) (kf : ¬ 0 < x → G E cl sl ad dm a b r q lo rest) : G E cl sl ad dm a b r pc lo (.int x :: rest) := fun H L ls hW hS hl => lv_if_gt C.1 C.2.1 d ht (fun h => kt h H L ls hW hS hl) (fun h => by subst hq; exact kf h H L ls hW hS hl)
theorem g_if_le {x : Int32} {off : Int} {tgt : Nat} (C : CX E cc own lev) (d : decode cc pc = .ok (.ifCond .le off, 3)) (hq : pc + 3 = q) (ht : (pc : Int) + off = (tgt : Int)) (kt : x ≤ 0 → G E cl sl ad dm a b r tgt lo rest) (kf : ¬ x ≤ 0 → G E cl sl ad dm a b r q lo rest) : G E cl sl ad dm a b r pc lo (.int x :: rest) := fun H L ls hW hS hl => lv_if_le C.1 C.2.1 d ht (fun h => kt h H L ls hW hS hl) (fun h => by subst hq; exact kf h H L ls hW hS hl)
theorem g_icmp_eq {x y : Int32} {off : Int} {tgt : Nat} (C : CX E cc own lev) (d : decode cc pc = .ok (.if_icmp .eq off, 3)) (hq : pc + 3 = q) (ht : (pc : Int) + off = (tgt : Int)) (kt : x = y → G E cl sl ad dm a b r tgt lo rest) (kf : ¬ x = y → G E cl sl ad dm a b r q lo rest) : G E cl sl ad dm a b r pc lo (.int y :: .int x :: rest) := fun H L ls hW hS hl => lv_icmp_eq C.1 C.2.1 d ht (fun h => kt h H L ls hW hS hl) (fun h => by subst hq; exact kf h H L ls hW hS hl)
theorem g_icmp_ne {x y : Int32} {off : Int} {tgt : Nat} (C : CX E cc own lev) (d : decode cc pc = .ok (.if_icmp .ne off, 3)) (hq : pc + 3 = q) (ht : (pc : Int) + off = (tgt : Int)) (kt : ¬ x = y → G E cl sl ad dm a b r tgt lo rest) (kf : x = y → G E cl sl ad dm a b r q lo rest) : G E cl sl ad dm a b r pc lo (.int y :: .int x :: rest) := fun H L ls hW hS hl => lv_icmp_ne C.1 C.2.1 d ht (fun h => kt h H L ls hW hS hl) (fun h => by subst hq; exact kf h H L ls hW hS hl)
theorem g_icmp_lt {x y : Int32} {off : Int} {tgt : Nat} (C : CX E cc own lev) (d : decode cc pc = .ok (.if_icmp .lt off, 3)) (hq : pc + 3 = q) (ht : (pc : Int) + off = (tgt : Int)) (kt : x < y → G E cl sl ad dm a b r tgt lo rest) (kf : ¬ x < y → G E cl sl ad dm a b r q lo rest) : G E cl sl ad dm a b r pc lo (.int y :: .int x :: rest) := fun H L ls hW hS hl => lv_icmp_lt C.1 C.2.1 d ht (fun h => kt h H L ls hW hS hl) (fun h => by subst hq; exact kf h H L ls hW hS hl)
theorem g_icmp_ge {x y : Int32} {off : Int} {tgt : Nat} (C : CX E cc own lev) (d : decode cc pc = .ok (.if_icmp .ge off, 3)) (hq : pc + 3 = q) (ht : (pc : Int) + off = (tgt : Int)) (kt : y ≤ x → G E cl sl ad dm a b r tgt lo rest) (kf : ¬ y ≤ x → G E cl sl ad dm a b r q lo rest) : G E cl sl ad dm a b r pc lo (.int y :: .int x :: rest) := fun H L ls hW hS hl => lv_icmp_ge C.1 C.2.1 d ht (fun h => kt h H L ls hW hS hl) (fun h => by subst hq; exact kf h H L ls hW hS hl)
theorem g_icmp_gt {x y : Int32} {off : Int} {tgt : Nat} (C : CX E cc own lev) (d : decode cc pc = .ok (.if_icmp .gt off, 3)) (hq : pc + 3 = q) (ht : (pc : Int) + off = (tgt : Int)) (kt : y < x → G E cl sl ad dm a b r tgt lo rest) (kf : ¬ y < x → G E cl sl ad dm a b r q lo rest) : G E cl sl ad dm a b r pc lo (.int y :: .int x :: rest) := fun H L ls hW hS hl => lv_icmp_gt C.1 C.2.1 d ht (fun h => kt h H L ls hW hS hl) (fun h => by subst hq; exact kf h H L ls hW hS hl)
theorem g_icmp_le {x y : Int32} {off : Int} {tgt : Nat} (C : CX E cc own lev) (d : decode cc pc = .ok (.if_icmp .le off, 3)) (hq : pc + 3 = q) (ht : (pc : Int) + off = (tgt : Int)) (kt : x ≤ y → G E cl sl ad dm a b r tgt lo rest) (kf : ¬ x ≤ y → G E cl sl ad dm a b r q lo rest) : G E cl sl ad dm a b r pc lo (.int y :: .int x :: rest) := fun H L ls hW hS hl => lv_icmp_le C.1 C.2.1 d ht (fun h => kt h H L ls hW hS hl) (fun h => by subst hq; exact kf h H L ls hW hS hl)
theorem g_goto {off : Int} {tgt : Nat} {st : List Value} (C : CX E cc own lev) (d : decode cc pc = .ok (.goto off, 3)) (ht : (pc : Int) + off = (tgt : Int)) (k : G E cl sl ad dm a b r tgt lo st) : G E cl sl ad dm a b r pc lo st := fun H L ls hW hS hl => lv_goto C.1 C.2.1 d ht (k H L ls hW hS hl)
theorem g_ifnonnull {n : Nat} {off : Int} {tgt : Nat} (C : CX E cc own lev) (d : decode cc pc = .ok (.ifnonnull off, 3)) (ht : (pc : Int) + off = (tgt : Int)) (k : G E cl sl ad dm a b r tgt lo rest) : G E cl sl ad dm a b r pc lo (.ref n :: rest) := fun H L ls hW hS hl => lv_ifnonnull C.1 C.2.1 d ht (k H L ls hW hS hl)
theorem g_ifnull {n : Nat} {off : Int} (C : CX E cc own lev) (d : decode cc pc = .ok (.ifnull off, 3)) (hq : pc + 3 = q) (k : G E cl sl ad dm a b r q lo rest) : G E cl sl ad dm a b r pc lo (.ref n :: rest) := fun H L ls hW hS hl => lv_ifnull C.1 C.2.1 d (by subst hq; exact k H L ls hW hS hl)
theorem g_ifnullN {off : Int} {tgt : Nat} (C : CX E cc own lev) (d : decode cc pc = .ok (.ifnull off, 3)) (ht : (pc : Int) + off = (tgt : Int)) (k : G E cl sl ad dm a b r tgt lo rest) : G E cl sl ad dm a b r pc lo (.null :: rest) := fun H L ls hW hS hl => lv_ifnullN C.1 C.2.1 d ht (k H L ls hW hS hl)
theorem g_ifnonnullN {off : Int} (C : CX E cc own lev) (d : decode cc pc = .ok (.ifnonnull off, 3)) (hq : pc + 3 = q) (k : G E cl sl ad dm a b r q lo rest) : G E cl sl ad dm a b r pc lo (.null :: rest) := fun H L ls hW hS hl => lv_ifnonnullN C.1 C.2.1 d (by subst hq; exact k H L ls hW hS hl)
/-- two references, by their names -/
theorem g_acmp_eq {x y : Nat} {off : Int} {tgt : Nat} (C : CX E cc own lev) (d : decode cc pc = .ok (.if_acmp .eq off, 3)) (hq : pc + 3 = q) (ht : (pc : Int) + off = (tgt : Int)) (hx : dm x = true) (hy : dm y = true) (kt : x = y → G E cl sl ad dm a b r tgt lo rest) (kf : ¬ x = y → G E cl sl ad dm a b r q lo rest) : G E cl sl ad dm a b r pc lo (.ref (ad y) :: .ref (ad x) :: rest) := fun H L ls hW hS hl => by
  subst hq
  have e : (some (ad x) = some (ad y)) ↔ x = y := ⟨fun h => hW.2.2 x y hx hy (Option.some.inj h), fun h => by rw [h]⟩
  exact lv_acmp_eq (rx := some (ad x)) (ry := some (ad y)) C.1 C.2.1 d ht (fun h => kt (e.mp h) H L ls hW hS hl) (fun h => kf (fun z => h (e.mpr z)) H L ls hW hS hl)
theorem g_acmp_eqN1 {x : Nat} {off : Int} {tgt : Nat} (C : CX E cc own lev) (d : decode cc pc = .ok (.if_acmp .eq off, 3)) (hq : pc + 3 = q) (ht : (pc : Int) + off = (tgt : Int)) (k : G E cl sl ad dm a b r q lo rest) : G E cl sl ad dm a b r pc lo (.ref x :: .null :: rest) := fun H L ls hW hS hl => by
  subst hq
  exact lv_acmp_eq (rx := none) (ry := some x) C.1 C.2.1 d ht (fun h => by cases h) (fun h => k H L ls hW hS hl)
theorem g_acmp_eqN2 {x : Nat} {off : Int} {tgt : Nat} (C : CX E cc own lev) (d : decode cc pc = .ok (.if_acmp .eq off, 3)) (hq : pc + 3 = q) (ht : (pc : Int) + off = (tgt : Int)) (k : G E cl sl ad dm a b r q lo rest) : G E cl sl ad dm a b r pc lo (.null :: .ref x :: rest) := fun H L ls hW hS hl => by
  subst hq
  exact lv_acmp_eq (rx := some x) (ry := none) C.1 C.2.1 d ht (fun h => by cases h) (fun h => k H L ls hW hS hl)
/-- two references, by their names -/
theorem g_acmp_ne {x y : Nat} {off : Int} {tgt : Nat} (C : CX E cc own lev) (d : decode cc pc = .ok (.if_acmp .ne off, 3)) (hq : pc + 3 = q) (ht : (pc : Int) + off = (tgt : Int)) (hx : dm x = true) (hy : dm y = true) (kt : ¬ x = y → G E cl sl ad dm a b r tgt lo rest) (kf : x = y → G E cl sl ad dm a b r q lo rest) : G E cl sl ad dm a b r pc lo (.ref (ad y) :: .ref (ad x) :: rest) := fun H L ls hW hS hl => by
  subst hq
  have e : (some (ad x) = some (ad y)) ↔ x = y := ⟨fun h => hW.2.2 x y hx hy (Option.some.inj h), fun h => by rw [h]⟩
  exact lv_acmp_ne (rx := some (ad x)) (ry := some (ad y)) C.1 C.2.1 d ht (fun h => kt (fun z => h (e.mpr z)) H L ls hW hS hl) (fun h => kf (e.mp h) H L ls hW hS hl)
theorem g_acmp_neN1 {x : Nat} {off : Int} {tgt : Nat} (C : CX E cc own lev) (d : decode cc pc = .ok (.if_acmp .ne off, 3)) (hq : pc + 3 = q) (ht : (pc : Int) + off = (tgt : Int)) (k : G E cl sl ad dm a b r tgt lo rest) : G E cl sl ad dm a b r pc lo (.ref x :: .null :: rest) := fun H L ls hW hS hl => by
  subst hq
  exact lv_acmp_ne (rx := none) (ry := some x) C.1 C.2.1 d ht (fun h => k H L ls hW hS hl) (fun h => by cases h)
theorem g_acmp_neN2 {x : Nat} {off : Int} {tgt : Nat} (C : CX E cc own lev) (d : decode cc pc = .ok (.if_acmp .ne off, 3)) (hq : pc + 3 = q) (ht : (pc : Int) + off = (tgt : Int)) (k : G E cl sl ad dm a b r tgt lo rest) : G E cl sl ad dm a b r pc lo (.null :: .ref x :: rest) := fun H L ls hW hS hl => by
  subst hq
  exact lv_acmp_ne (rx := some x) (ry := none) C.1 C.2.1 d ht (fun h => k H L ls hW hS hl) (fun h => by cases h)
theorem g_tableOut {dflt lw hi : Int} {offs : Array Int} {len : Nat} {x : Int32} {tgt : Nat} (C : CX E cc own lev) (d : decode cc pc = .ok (.tableswitch dflt lw hi offs, len)) (h : x.toInt < lw ∨ hi < x.toInt) (ht : (pc : Int) + dflt = (tgt : Int)) (k : G E cl sl ad dm a b r tgt lo rest) : G E cl sl ad dm a b r pc lo (.int x :: rest) := fun H L ls hW hS hl => lv_tableOut C.1 C.2.1 d h ht (k H L ls hW hS hl)
theorem g_tableIn {dflt lw hi : Int} {offs : Array Int} {len : Nat} {x : Int32} {off : Int} {tgt : Nat} (C : CX E cc own lev) (d : decode cc pc = .ok (.tableswitch dflt lw hi offs, len)) (h1 : ¬ x.toInt < lw) (h2 : ¬ hi < x.toInt) (ho : offs[(x.toInt - lw).toNat]? = some off) (ht : (pc : Int) + off = (tgt : Int)) (k : G E cl sl ad dm a b r tgt lo rest) : G E cl sl ad dm a b r pc lo (.int x :: rest) := fun H L ls hW hS hl => lv_tableIn C.1 C.2.1 d h1 h2 ho ht (k H L ls hW hS hl)
end GR
end
section
/-! rows of fields and arrays, in the world's words -/
/-- a field that a class's pool number names: class number, slot, kind -/
def FF (own : String) (idx ci k t : Nat) : Prop := ∃ (Cn : String) (T : u_T) (N : Nat), vwCl[ci]? = some (Cn, T, N) ∧ (∀ w ∈ u_ws Cn T N, w ∈ gd) ∧ Cond.fieldLink own idx (T k).1 (T k).2.1 (T k).2.2.1 ∈ gd ∧ k < N ∧ (kds ci)[k]? = some t ∧ (kds ci).length = N
/-- and its type, and whether it is final -/
def FP (own : String) (idx ci k t : Nat) (fin : Bool) (ty : FieldType) : Prop := ∃ (Cn : String) (T : u_T) (N : Nat) (ty0 : Nat → FieldType), vwCl[ci]? = some (Cn, T, N) ∧ (∀ w ∈ u_ws Cn T N, w ∈ gd) ∧ Cond.fieldLink own idx (T k).1 (T k).2.1 (T k).2.2.1 ∈ gd ∧ k < N ∧ (kds ci)[k]? = some t ∧ (kds ci).length = N ∧ (∀ k, k < N → parseFieldDescriptor (T k).2.2.1 = some (ty0 k)) ∧ (∀ a, a < N → ∀ b, b < N → a ≠ b → (T a).2.1 ≠ (T b).2.1) ∧ (T k).2.2.2 = fin ∧ ty0 k = ty ∧ (T k).1 = Cn
section GH
variable {E : EN} {cc : ByteArray} {own : String} {lev cl sl : Nat} {ad : Nat → Nat} {dm : Nat → Bool} {a : Nat → Nat → Int32} {b : Nat → Nat → Int64} {r : Nat → Nat → Option Nat} {pc q : Nat} {lo : List (Option Value)} {rest : List Value}
theorem g_get {idx ci k t n : Nat} (C : CX E cc own lev) (F : FF own idx ci k t) (d : decode cc pc = .ok (.getfield idx, 3)) (hq : pc + 3 = q) (hl : ly n = .inl ci) (hd : dm n = true)
    (kk : G E cl sl ad dm a b r q lo (vl ad (a n) (b n) (r n) k t :: rest)) : G E cl sl ad dm a b r pc lo (.ref (ad n) :: rest) := fun H L ls hW hS hl' => by
  subst hq
  obtain ⟨Cn, T, N, h1, h2, h3, h4, h5, h6⟩ := F
  obtain ⟨hx, hb, hml, hown, hts, hK, -⟩ := C
  have hat := (hW.2.1 n hd).2
  rw [ce_o hl] at hat
  refine va_get (ws := [(ad n, .inr (ci, vls ad (a n) (b n) (r n) 0 (kds ci)))]) (v := vl ad (a n) (b n) (r n) k t) hx hb hts h2 hown hK (fun i z hz => ?_) 0 rfl h1 k h4 (hts _ h3) (fun _ h9 => h9) ?_ d (kk H L ls hW hS hl')
  · cases i with
    | zero => cases hz; exact hat
    | succ i => cases hz
  · have h7 := vls_get (ad := ad) (a := a n) (b := b n) (r := r n) (kds ci) 0 k t h5
    rw [Nat.zero_add] at h7
    exact h7
theorem g_geti {idx ci k n : Nat} (C : CX E cc own lev) (F : FF own idx ci k 0) (d : decode cc pc = .ok (.getfield idx, 3)) (hq : pc + 3 = q) (hl : ly n = .inl ci) (hd : dm n = true) (kk : G E cl sl ad dm a b r q lo (.int (a n k) :: rest)) : G E cl sl ad dm a b r pc lo (.ref (ad n) :: rest) := g_get C F d hq hl hd kk
theorem g_getl {idx ci k n : Nat} (C : CX E cc own lev) (F : FF own idx ci k 1) (d : decode cc pc = .ok (.getfield idx, 3)) (hq : pc + 3 = q) (hl : ly n = .inl ci) (hd : dm n = true) (kk : G E cl sl ad dm a b r q lo (.long (b n k) :: rest)) : G E cl sl ad dm a b r pc lo (.ref (ad n) :: rest) := g_get C F d hq hl hd kk
theorem g_getr {idx ci k n m : Nat} (C : CX E cc own lev) (F : FF own idx ci k 2) (d : decode cc pc = .ok (.getfield idx, 3)) (hq : pc + 3 = q) (hl : ly n = .inl ci) (hd : dm n = true) (hr : r n k = some m) (kk : G E cl sl ad dm a b r q lo (.ref (ad m) :: rest)) : G E cl sl ad dm a b r pc lo (.ref (ad n) :: rest) := g_get C F d hq hl hd (by
  show G E cl sl ad dm a b r q lo (va_rf ((r n k).map ad) :: rest)
  rw [hr]
  exact kk)
theorem g_getrN {idx ci k n : Nat} (C : CX E cc own lev) (F : FF own idx ci k 2) (d : decode cc pc = .ok (.getfield idx, 3)) (hq : pc + 3 = q) (hl : ly n = .inl ci) (hd : dm n = true) (hr : r n k = none) (kk : G E cl sl ad dm a b r q lo (.null :: rest)) : G E cl sl ad dm a b r pc lo (.ref (ad n) :: rest) := g_get C F d hq hl hd (by
  show G E cl sl ad dm a b r q lo (va_rf ((r n k).map ad) :: rest)
  rw [hr]
  exact kk)
/-- the reference that is for ever -/
theorem g_getc {idx ci k n m : Nat} (C : CX E cc own lev) (F : FF own idx ci k (m + 3)) (d : decode cc pc = .ok (.getfield idx, 3)) (hq : pc + 3 = q) (hl : ly n = .inl ci) (hd : dm n = true) (kk : G E cl sl ad dm a b r q lo (.ref (ad m) :: rest)) : G E cl sl ad dm a b r pc lo (.ref (ad n) :: rest) := g_get C F d hq hl hd kk
/-- a field is written -/
theorem g_put {idx ci k t n : Nat} {ty : FieldType} {v : Value} {a' : Nat → Nat → Int32} {b' : Nat → Nat → Int64} {r' : Nat → Nat → Option Nat} (C : CX E cc own lev) (F : FP own idx ci k t false ty) (d : decode cc pc = .ok (.putfield idx, 3)) (hq : pc + 3 = q) (hl : ly n = .inl ci) (hd : dm n = true) (hn : narrow ty v = v) (hf : fits ty v = true)
    (hs : ∀ i, i ≠ n → a i = a' i ∧ b i = b' i ∧ r i = r' i) (hv : vl ad (a' n) (b' n) (r' n) k t = v) (ho : ∀ i u, i ≠ k → vl ad (a n) (b n) (r n) i u = vl ad (a' n) (b' n) (r' n) i u)
    (kk : G E cl sl ad dm a' b' r' q lo rest) : G E cl sl ad dm a b r pc lo (v :: .ref (ad n) :: rest) := fun H L ls hW hS hl' => by
  subst hq
  obtain ⟨Cn, T, N, ty0, h1, h2, h3, h4, h5, h6, hty, hnm, hfin, hty1, hdc⟩ := F
  obtain ⟨hx, hb, hml, hown, hts, hK, -⟩ := C
  have hat := (hW.2.1 n hd).2
  rw [ce_o hl] at hat
  have hap := va_apart (own := own) hts h2 ty0 hty hnm hK h1
  obtain ⟨rr, g1, cell, q1, q2, q3, q4⟩ := hat
  have hr : rr = (Cn, T, N) := Option.some.inj (g1.symm.trans h1)
  subst hr
  obtain ⟨hSl, hfc, kC, hkC, hkind⟩ := hK.1 ci _ h1
  obtain ⟨cf, kf, fi, f, hi, hsl⟩ := hSl k h4
  have hlay := hts _ (h2 _ (u_in_lay h4))
  unfold u_lay at hlay
  rw [if_neg (by rw [hfin]; decide)] at hlay
  have hst := (u_facts hfc hkC (u_lays hts h2 h4) hi).1
  have h9 := u_store (v := v) hfc hkC hkind hlay hi (hty k h4) (by rw [hty1]; exact hn) (by rw [hty1]; exact hf)
  refine W.putK hx hb (f := f) ⟨hown, hts _ h3, ⟨_, _, _, hi⟩, hst⟩ (by rw [q2]; exact h9) q1 q3 (by rw [hsl]; exact k2_hasslot (q4 k h4)) rfl rfl d fun H' e1 e2 e3 => ?_
  rw [hsl] at e1 ⊢
  have hkl : k < (vls ad (a n) (b n) (r n) 0 (kds ci)).length := by rw [vls_len, h6]; exact h4
  have e4 : (vls ad (a n) (b n) (r n) 0 (kds ci)).set k v = vls ad (a' n) (b' n) (r' n) 0 (kds ci) := vls_set (kds ci) 0 k t h5 (by rw [Nat.zero_add]; exact hv) (fun i u hi => ho i u (by omega))
  refine kk H' _ ls (hW.st hd e2 e3 ?_ hs) (hS.put e2 e3 (hW.2.1 n hd).1) hl'
  rw [ce_o hl]
  exact ⟨_, h1, t_OB.to (V := updV (vp_V (vls ad (a n) (b n) (r n) 0 (kds ci))) k v) ⟨_, e1, q2, q3, t_set q4 hap h4 v⟩ (fun j _ => by rw [vp_updV_set hkl v j, e4])⟩
theorem vl_u2 {ad : Nat → Nat} {a : Nat → Nat → Int32} {b : Nat → Nat → Int64} {r : Nat → Nat → Option Nat} {n k i : Nat} {x : Int32} (u : Nat) (h : i ≠ k) : vl ad (a n) (b n) (r n) i u = vl ad (u2 a n k x n) (b n) (r n) i u := by
  match u with
  | 0 => simp [vl, u2, h]
  | 1 => rfl
  | 2 => rfl
  | u + 3 => rfl
theorem vl_u2l {ad : Nat → Nat} {a : Nat → Nat → Int32} {b : Nat → Nat → Int64} {r : Nat → Nat → Option Nat} {n k i : Nat} {x : Int64} (u : Nat) (h : i ≠ k) : vl ad (a n) (b n) (r n) i u = vl ad (a n) (u2 b n k x n) (r n) i u := by
  match u with
  | 0 => rfl
  | 1 => simp [vl, u2, h]
  | 2 => rfl
  | u + 3 => rfl
theorem vl_u2r {ad : Nat → Nat} {a : Nat → Nat → Int32} {b : Nat → Nat → Int64} {r : Nat → Nat → Option Nat} {n k i : Nat} {x : Option Nat} (u : Nat) (h : i ≠ k) : vl ad (a n) (b n) (r n) i u = vl ad (a n) (b n) (u2 r n k x n) i u := by
  match u with
  | 0 => rfl
  | 1 => rfl
  | 2 => simp [vl, u2, h]
  | u + 3 => rfl
theorem g_puti {idx ci k n : Nat} {x : Int32} {ty : FieldType} (C : CX E cc own lev) (F : FP own idx ci k 0 false ty) (d : decode cc pc = .ok (.putfield idx, 3)) (hq : pc + 3 = q) (hl : ly n = .inl ci) (hd : dm n = true) (hn : narrow ty (.int x) = .int x) (hf : fits ty (.int x) = true) (kk : G E cl sl ad dm (u2 a n k x) b r q lo rest) : G E cl sl ad dm a b r pc lo (.int x :: .ref (ad n) :: rest) :=
  g_put C F d hq hl hd hn hf (fun i hi => ⟨(u2_n hi).symm, rfl, rfl⟩) (by show Value.int (u2 a n k x n k) = _; rw [u2_s]) (fun i u hi => vl_u2 u hi) kk
theorem g_putl {idx ci k n : Nat} {x : Int64} {ty : FieldType} (C : CX E cc own lev) (F : FP own idx ci k 1 false ty) (d : decode cc pc = .ok (.putfield idx, 3)) (hq : pc + 3 = q) (hl : ly n = .inl ci) (hd : dm n = true) (hn : narrow ty (.long x) = .long x) (hf : fits ty (.long x) = true) (kk : G E cl sl ad dm a (u2 b n k x) r q lo rest) : G E cl sl ad dm a b r pc lo (.long x :: .ref (ad n) :: rest) :=
  g_put C F d hq hl hd hn hf (fun i hi => ⟨rfl, (u2_n hi).symm, rfl⟩) (by show Value.long (u2 b n k x n k) = _; rw [u2_s]) (fun i u hi => vl_u2l u hi) kk
theorem g_putr {idx ci k n m : Nat} {ty : FieldType} (C : CX E cc own lev) (F : FP own idx ci k 2 false ty) (d : decode cc pc = .ok (.putfield idx, 3)) (hq : pc + 3 = q) (hl : ly n = .inl ci) (hd : dm n = true) (hn : narrow ty (.ref (ad m)) = .ref (ad m)) (hf : fits ty (.ref (ad m)) = true) (kk : G E cl sl ad dm a b (u2 r n k (some m)) q lo rest) : G E cl sl ad dm a b r pc lo (.ref (ad m) :: .ref (ad n) :: rest) :=
  g_put C F d hq hl hd hn hf (fun i hi => ⟨rfl, rfl, (u2_n hi).symm⟩) (by show va_rf ((u2 r n k (some m) n k).map ad) = _; rw [u2_s]; rfl) (fun i u hi => vl_u2r u hi) kk
theorem g_putrN {idx ci k n : Nat} {ty : FieldType} (C : CX E cc own lev) (F : FP own idx ci k 2 false ty) (d : decode cc pc = .ok (.putfield idx, 3)) (hq : pc + 3 = q) (hl : ly n = .inl ci) (hd : dm n = true) (hn : narrow ty .null = .null) (hf : fits ty .null = true) (kk : G E cl sl ad dm a b (u2 r n k none) q lo rest) : G E cl sl ad dm a b r pc lo (.null :: .ref (ad n) :: rest) :=
  g_put C F d hq hl hd hn hf (fun i hi => ⟨rfl, rfl, (u2_n hi).symm⟩) (by show va_rf ((u2 r n k none n k).map ad) = _; rw [u2_s]; rfl) (fun i u hi => vl_u2r u hi) kk
/-- rows of ints, of longs, of references -/
theorem Wd.one {g : GM} {bs : Nat} {H : Heap} (h : Wd g bs ad dm a b r H) {n : Nat} (hd : dm n = true) {e : va_E} (he : ce g ad a b r n = e) : va_P g.1 vwCl [(ad n, e)] H := by
  intro i z hz
  cases i with
  | zero => cases hz; rw [← he]; exact (h.2.1 n hd).2
  | succ i => cases hz
theorem g_iald {n len : Nat} {i : Int32} (C : CX E cc own lev) (d : decode cc pc = .ok (.iaload, 1)) (hq : pc + 1 = q) (hl : ly n = .inr (0, len)) (hd : dm n = true) (hin : vp_in i len) (kk : G E cl sl ad dm a b r q lo (.int (a n i.toNatClampNeg) :: rest)) : G E cl sl ad dm a b r pc lo (.int i :: .ref (ad n) :: rest) := fun H L ls hW hS hl' => by
  subst hq
  exact va_iald C.1 C.2.1 C.2.2.2.2.2.1 (hW.one hd (ce_i hl)) 0 0 rfl rfl hin d (kk H L ls hW hS hl')
theorem g_lald {n len : Nat} {i : Int32} (C : CX E cc own lev) (d : decode cc pc = .ok (.laload, 1)) (hq : pc + 1 = q) (hl : ly n = .inr (1, len)) (hd : dm n = true) (hin : vp_in i len) (kk : G E cl sl ad dm a b r q lo (.long (b n i.toNatClampNeg) :: rest)) : G E cl sl ad dm a b r pc lo (.int i :: .ref (ad n) :: rest) := fun H L ls hW hS hl' => by
  subst hq
  exact va_lald C.1 C.2.1 C.2.2.2.2.2.1 (hW.one hd (ce_l hl)) 0 1 rfl rfl hin d (kk H L ls hW hS hl')
theorem g_aald2 {n len : Nat} {i : Int32} (C : CX E cc own lev) (d : decode cc pc = .ok (.aaload, 1)) (hq : pc + 1 = q) (hl : ly n = .inr (2, len)) (hd : dm n = true) (hin : vp_in i len) (kk : G E cl sl ad dm a b r q lo (va_rf ((r n i.toNatClampNeg).map ad) :: rest)) : G E cl sl ad dm a b r pc lo (.int i :: .ref (ad n) :: rest) := fun H L ls hW hS hl' => by
  subst hq
  exact va_aldq C.1 C.2.1 C.2.2.2.2.2.1 (hW.one hd (ce_f hl)) 0 2 rfl rfl hin d (kk H L ls hW hS hl')
theorem g_aald3 {n len : Nat} {i : Int32} (C : CX E cc own lev) (d : decode cc pc = .ok (.aaload, 1)) (hq : pc + 1 = q) (hl : ly n = .inr (3, len)) (hd : dm n = true) (hin : vp_in i len) (kk : G E cl sl ad dm a b r q lo (va_rf ((r n i.toNatClampNeg).map ad) :: rest)) : G E cl sl ad dm a b r pc lo (.int i :: .ref (ad n) :: rest) := fun H L ls hW hS hl' => by
  subst hq
  exact va_aldq C.1 C.2.1 C.2.2.2.2.2.1 (hW.one hd (ce_p hl)) 0 3 rfl rfl hin d (kk H L ls hW hS hl')
/-- a row of references, the place by its number, what is there known -/
theorem g_aaF {n len j m : Nat} {i : Int32} (C : CX E cc own lev) (d : decode cc pc = .ok (.aaload, 1)) (hq : pc + 1 = q) (hl : ly n = .inr (2, len)) (hd : dm n = true) (hi : i = nI j) (hj : j < len) (h31 : len < 2 ^ 31) (hr : r n j = some m) (kk : G E cl sl ad dm a b r q lo (.ref (ad m) :: rest)) : G E cl sl ad dm a b r pc lo (.int i :: .ref (ad n) :: rest) := by
  subst hi
  refine g_aald2 C d hq hl hd (vp_in_nI hj h31) ?_
  rw [nI_clamp (by omega), hr]
  exact kk
theorem g_aaFN {n len j : Nat} {i : Int32} (C : CX E cc own lev) (d : decode cc pc = .ok (.aaload, 1)) (hq : pc + 1 = q) (hl : ly n = .inr (2, len)) (hd : dm n = true) (hi : i = nI j) (hj : j < len) (h31 : len < 2 ^ 31) (hr : r n j = none) (kk : G E cl sl ad dm a b r q lo (.null :: rest)) : G E cl sl ad dm a b r pc lo (.int i :: .ref (ad n) :: rest) := by
  subst hi
  refine g_aald2 C d hq hl hd (vp_in_nI hj h31) ?_
  rw [nI_clamp (by omega), hr]
  exact kk
theorem g_aaP {n len j m : Nat} {i : Int32} (C : CX E cc own lev) (d : decode cc pc = .ok (.aaload, 1)) (hq : pc + 1 = q) (hl : ly n = .inr (3, len)) (hd : dm n = true) (hi : i = nI j) (hj : j < len) (h31 : len < 2 ^ 31) (hr : r n j = some m) (kk : G E cl sl ad dm a b r q lo (.ref (ad m) :: rest)) : G E cl sl ad dm a b r pc lo (.int i :: .ref (ad n) :: rest) := by
  subst hi
  refine g_aald3 C d hq hl hd (vp_in_nI hj h31) ?_
  rw [nI_clamp (by omega), hr]
  exact kk
theorem g_ia {n len j : Nat} {i : Int32} (C : CX E cc own lev) (d : decode cc pc = .ok (.iaload, 1)) (hq : pc + 1 = q) (hl : ly n = .inr (0, len)) (hd : dm n = true) (hi : i = nI j) (hj : j < len) (h31 : len < 2 ^ 31) (kk : G E cl sl ad dm a b r q lo (.int (a n j) :: rest)) : G E cl sl ad dm a b r pc lo (.int i :: .ref (ad n) :: rest) := by
  subst hi
  refine g_iald C d hq hl hd (vp_in_nI hj h31) ?_
  rw [nI_clamp (by omega)]
  exact kk
theorem g_la {n len j : Nat} {i : Int32} (C : CX E cc own lev) (d : decode cc pc = .ok (.laload, 1)) (hq : pc + 1 = q) (hl : ly n = .inr (1, len)) (hd : dm n = true) (hi : i = nI j) (hj : j < len) (h31 : len < 2 ^ 31) (kk : G E cl sl ad dm a b r q lo (.long (b n j) :: rest)) : G E cl sl ad dm a b r pc lo (.int i :: .ref (ad n) :: rest) := by
  subst hi
  refine g_lald C d hq hl hd (vp_in_nI hj h31) ?_
  rw [nI_clamp (by omega)]
  exact kk
theorem g_alen {n t len : Nat} {v : Int32} (C : CX E cc own lev) (d : decode cc pc = .ok (.arraylength, 1)) (hq : pc + 1 = q) (hl : ly n = .inr (t, len)) (ht : t < 2) (hd : dm n = true) (hv : Int32.ofNat len = v) (kk : G E cl sl ad dm a b r q lo (.int v :: rest)) : G E cl sl ad dm a b r pc lo (.ref (ad n) :: rest) := fun H L ls hW hS hl' => by
  subst hq
  match t, ht, hl with
  | 0, _, hl => exact va_alen C.1 C.2.1 C.2.2.2.2.2.1 (hW.one hd (ce_i hl)) 0 0 rfl rfl hv d (kk H L ls hW hS hl')
  | 1, _, hl => exact va_alen C.1 C.2.1 C.2.2.2.2.2.1 (hW.one hd (ce_l hl)) 0 1 rfl rfl hv d (kk H L ls hW hS hl')
theorem u2_row {α : Type} {f : Nat → Nat → α} {n k : Nat} {v : α} : u2 f n k v n = fun j => if j = k then v else f n j := by
  funext j
  simp [u2]
theorem g_iast {n len j : Nat} {i x : Int32} (C : CX E cc own lev) (d : decode cc pc = .ok (.iastore, 1)) (hq : pc + 1 = q) (hl : ly n = .inr (0, len)) (hd : dm n = true) (hi : i = nI j) (hj : j < len) (h31 : len < 2 ^ 31) (kk : G E cl sl ad dm (u2 a n j x) b r q lo rest) : G E cl sl ad dm a b r pc lo (.int x :: .int i :: .ref (ad n) :: rest) := fun H L ls hW hS hl' => by
  subst hq
  subst hi
  have hat := (hW.2.1 n hd).2
  rw [ce_i hl] at hat
  refine W.iast C.1 C.2.1 hat ((C.2.2.2.2.2.1.2 0 _ rfl).1 len (fun j => .int (a n j))) (fun q => by cases q) (by show ¬ (_ ∨ (arrV _ _ _).slots.size ≤ _); rw [arrV_size]; exact vp_in_nI hj h31) rfl rfl d fun H1 e z oq => ?_
  refine kk H1 _ ls (hW.st hd z oq ?_ (fun i hi => ⟨(u2_n hi).symm, rfl, rfl⟩)) (hS.put z oq (hW.2.1 n hd).1) hl'
  rw [ce_i hl]
  show H1[ad n]? = some (vp_cell _ _)
  rw [e, nI_clamp (by omega), vp_cell_i, vp_cell_i, arrV_store]
  congr 2
  funext q
  by_cases hq : q = j <;> simp [updV, u2, hq]
theorem g_last {n len j : Nat} {i : Int32} {x : Int64} (C : CX E cc own lev) (d : decode cc pc = .ok (.lastore, 1)) (hq : pc + 1 = q) (hl : ly n = .inr (1, len)) (hd : dm n = true) (hi : i = nI j) (hj : j < len) (h31 : len < 2 ^ 31) (kk : G E cl sl ad dm a (u2 b n j x) r q lo rest) : G E cl sl ad dm a b r pc lo (.long x :: .int i :: .ref (ad n) :: rest) := fun H L ls hW hS hl' => by
  subst hq
  subst hi
  have hat := (hW.2.1 n hd).2
  rw [ce_l hl] at hat
  refine W.last C.1 C.2.1 hat ((C.2.2.2.2.2.1.2 1 _ rfl).1 len (fun j => .long (b n j))) (fun q => by cases q) (by show ¬ (_ ∨ (arrV _ _ _).slots.size ≤ _); rw [arrV_size]; exact vp_in_nI hj h31) rfl rfl d fun H1 e z oq => ?_
  refine kk H1 _ ls (hW.st hd z oq ?_ (fun i hi => ⟨rfl, (u2_n hi).symm, rfl⟩)) (hS.put z oq (hW.2.1 n hd).1) hl'
  rw [ce_l hl]
  show H1[ad n]? = some (vp_cell _ _)
  rw [e, nI_clamp (by omega), vp_cell_l, vp_cell_l, arrV_store]
  congr 2
  funext q
  by_cases hq : q = j <;> simp [updV, u2, hq]
theorem g_aastK {n len j m t ci : Nat} {cA : ClassId} {rr : vw_C} {i : Int32} (C : CX E cc own lev) (d : decode cc pc = .ok (.aastore, 1)) (hq : pc + 1 = q) (hce : ∀ r : Nat → Nat → Option Nat, ce (eG E) ad a b r n = .inl (cA, len, .inr (.inr (.inr (.inr (fun k => (r n k).map ad)))))) (ht : (tysG (eG E))[t]? = some (cA, .object rr.1)) (hc : vwCl[ci]? = some rr) (hd : dm n = true) (hm : dm m = true) (hlm : ly m = .inl ci) (hi : i = nI j) (hj : j < len) (h31 : len < 2 ^ 31) (kk : G E cl sl ad dm a b (u2 r n j (some m)) q lo rest) : G E cl sl ad dm a b r pc lo (.ref (ad m) :: .int i :: .ref (ad n) :: rest) := fun H L ls hW hS hl' => by
  subst hq
  subst hi
  obtain ⟨hx, hb, -, -, -, hK, -⟩ := C
  have hat := (hW.2.1 n hd).2
  rw [hce] at hat
  have hav := (hW.2.1 m hm).2
  rw [ce_o hlm] at hav
  obtain ⟨q', g0, cell, g1, g2, g3, -⟩ := hav
  have hlt : (nI j).toNatClampNeg < len := by rw [nI_clamp (by omega)]; exact hj
  have hcls := (hK.1 ci rr hc).2
  obtain ⟨kA, comp, k1, k2, k3, -⟩ := (hK.2 t _ ht).2
  have hcomp : comp = (eG E).1.1 ci := Option.some.inj (k3.symm.trans hcls.1)
  subst hcomp
  obtain ⟨kC, hkC, -⟩ := hcls.2
  refine W.aast hx hb hat (fun q h => by cases h) (fun h => by cases h) k1 k2 rfl hkC ⟨fun q => (vp_in_nI hj h31) (Or.inl q), by show _ < (arrV _ _ _).slots.size; rw [arrV_size]; exact hlt⟩ g1 (fun q h => by rw [g3] at h; cases h) (by rw [g2]; exact hkC) (by rw [g2]; exact va_assign hcls) rfl rfl d fun H1 e z oq => ?_
  refine kk H1 _ ls (hW.st hd z oq ?_ (fun i hi => ⟨rfl, rfl, (u2_n hi).symm⟩)) (hS.put z oq (hW.2.1 n hd).1) hl'
  rw [hce]
  show H1[ad n]? = some (vp_cell _ _)
  rw [e, nI_clamp (by omega), vp_cell_q, vp_cell_q, arrV_store]
  congr 2
  funext q
  by_cases hq : q = j <;> simp [updV, u2, hq, va_rf]
theorem g_aastF {n len j m : Nat} {i : Int32} (C : CX E cc own lev) (d : decode cc pc = .ok (.aastore, 1)) (hq : pc + 1 = q) (hl : ly n = .inr (2, len)) (hd : dm n = true) (hm : dm m = true) (hlm : ly m = .inl 0) (hi : i = nI j) (hj : j < len) (h31 : len < 2 ^ 31) (kk : G E cl sl ad dm a b (u2 r n j (some m)) q lo rest) : G E cl sl ad dm a b r pc lo (.ref (ad m) :: .int i :: .ref (ad n) :: rest) := g_aastK (t := 2) C d hq (fun _ => ce_f hl) rfl rfl hd hm hlm hi hj h31 kk
theorem g_aastP {n len j m : Nat} {i : Int32} (C : CX E cc own lev) (d : decode cc pc = .ok (.aastore, 1)) (hq : pc + 1 = q) (hl : ly n = .inr (3, len)) (hd : dm n = true) (hm : dm m = true) (hlm : ly m = .inl 2) (hi : i = nI j) (hj : j < len) (h31 : len < 2 ^ 31) (kk : G E cl sl ad dm a b (u2 r n j (some m)) q lo rest) : G E cl sl ad dm a b r pc lo (.ref (ad m) :: .int i :: .ref (ad n) :: rest) := g_aastK (t := 3) C d hq (fun _ => ce_p hl) rfl rfl hd hm hlm hi hj h31 kk
theorem g_aastFN {n len j : Nat} {i : Int32} (C : CX E cc own lev) (d : decode cc pc = .ok (.aastore, 1)) (hq : pc + 1 = q) (hl : ly n = .inr (2, len)) (hd : dm n = true) (hi : i = nI j) (hj : j < len) (h31 : len < 2 ^ 31) (kk : G E cl sl ad dm a b (u2 r n j none) q lo rest) : G E cl sl ad dm a b r pc lo (.null :: .int i :: .ref (ad n) :: rest) := fun H L ls hW hS hl' => by
  subst hq
  subst hi
  have hat := (hW.2.1 n hd).2
  rw [ce_f hl] at hat
  refine va_WaastN (C := RX0) C.1 C.2.1 hat ((C.2.2.2.2.2.1.2 2 _ rfl).1 len (fun j => va_rf ((r n j).map ad))) (fun q => by cases q) (by show ¬ (_ ∨ (arrV _ _ _).slots.size ≤ _); rw [arrV_size]; exact vp_in_nI hj h31) rfl rfl d fun H1 e z oq => ?_
  refine kk H1 _ ls (hW.st hd z oq ?_ (fun i hi => ⟨rfl, rfl, (u2_n hi).symm⟩)) (hS.put z oq (hW.2.1 n hd).1) hl'
  rw [ce_f hl]
  show H1[ad n]? = some (vp_cell _ _)
  rw [e, nI_clamp (by omega), vp_cell_q, vp_cell_q, arrV_store]
  congr 2
  funext q
  by_cases hq : q = j <;> simp [updV, u2, hq, va_rf]
end GH
end
