section
-- ===== PART A: goes FIRST, ahead of the names: the tables' words, and 'selects' of the private methods out of them =====
/-- a private method of a class that the tables say can be made, by its rows of tables_1 -/
def lw_okq (q : MethodName × Nat) : Prop := (q.1.cls ≠ "java/lang/invoke/MethodHandle" ∧ q.1.cls ≠ "java/lang/invoke/VarHandle") ∧ Cond.instantiable q.1.cls q.2 ∈ tables_1 ∧ Cond.privateMethod q.1 ∈ tables_1 ∧ Cond.instanceMethod q.1 ∈ tables_1
theorem lw_p0 : lw_okq (⟨"TooMany", "flightAt", "(I)LTooMany$Flight;"⟩, 8) := ⟨⟨by decide +kernel, by decide +kernel⟩, List.mem_of_getElem? (i := 12) (by decide +kernel), List.mem_of_getElem? (i := 154) (by decide +kernel), List.mem_of_getElem? (i := 155) (by decide +kernel)⟩
theorem lw_p1 : lw_okq (⟨"TooMany", "setChange", "(I)I"⟩, 8) := ⟨⟨by decide +kernel, by decide +kernel⟩, List.mem_of_getElem? (i := 12) (by decide +kernel), List.mem_of_getElem? (i := 210) (by decide +kernel), List.mem_of_getElem? (i := 211) (by decide +kernel)⟩
theorem lw_p2 : lw_okq (⟨"TooMany", "loadOf", "(LTooMany$Flight;)I"⟩, 8) := ⟨⟨by decide +kernel, by decide +kernel⟩, List.mem_of_getElem? (i := 12) (by decide +kernel), List.mem_of_getElem? (i := 218) (by decide +kernel), List.mem_of_getElem? (i := 219) (by decide +kernel)⟩
theorem lw_p3 : lw_okq (⟨"TooMany", "overOf", "(LTooMany$Flight;)I"⟩, 8) := ⟨⟨by decide +kernel, by decide +kernel⟩, List.mem_of_getElem? (i := 12) (by decide +kernel), List.mem_of_getElem? (i := 226) (by decide +kernel), List.mem_of_getElem? (i := 227) (by decide +kernel)⟩
theorem lw_p4 : lw_okq (⟨"TooMany", "mustPeople", "(LTooMany$Flight;)I"⟩, 8) := ⟨⟨by decide +kernel, by decide +kernel⟩, List.mem_of_getElem? (i := 12) (by decide +kernel), List.mem_of_getElem? (i := 233) (by decide +kernel), List.mem_of_getElem? (i := 234) (by decide +kernel)⟩
theorem lw_p5 : lw_okq (⟨"TooMany", "flyingPeople", "()I"⟩, 8) := ⟨⟨by decide +kernel, by decide +kernel⟩, List.mem_of_getElem? (i := 12) (by decide +kernel), List.mem_of_getElem? (i := 241) (by decide +kernel), List.mem_of_getElem? (i := 242) (by decide +kernel)⟩
theorem lw_p6 : lw_okq (⟨"TooMany", "peopleIn", "(I)I"⟩, 8) := ⟨⟨by decide +kernel, by decide +kernel⟩, List.mem_of_getElem? (i := 12) (by decide +kernel), List.mem_of_getElem? (i := 245) (by decide +kernel), List.mem_of_getElem? (i := 246) (by decide +kernel)⟩
theorem lw_p7 : lw_okq (⟨"TooMany", "peopleWithWay", "()I"⟩, 8) := ⟨⟨by decide +kernel, by decide +kernel⟩, List.mem_of_getElem? (i := 12) (by decide +kernel), List.mem_of_getElem? (i := 249) (by decide +kernel), List.mem_of_getElem? (i := 250) (by decide +kernel)⟩
theorem lw_p8 : lw_okq (⟨"TooMany", "allClaims", "()I"⟩, 8) := ⟨⟨by decide +kernel, by decide +kernel⟩, List.mem_of_getElem? (i := 12) (by decide +kernel), List.mem_of_getElem? (i := 253) (by decide +kernel), List.mem_of_getElem? (i := 254) (by decide +kernel)⟩
theorem lw_p9 : lw_okq (⟨"TooMany", "claimOf", "(LTooMany$Party;)I"⟩, 8) := ⟨⟨by decide +kernel, by decide +kernel⟩, List.mem_of_getElem? (i := 12) (by decide +kernel), List.mem_of_getElem? (i := 257) (by decide +kernel), List.mem_of_getElem? (i := 258) (by decide +kernel)⟩
theorem lw_p10 : lw_okq (⟨"TooMany", "baseFee", "(I)I"⟩, 8) := ⟨⟨by decide +kernel, by decide +kernel⟩, List.mem_of_getElem? (i := 12) (by decide +kernel), List.mem_of_getElem? (i := 261) (by decide +kernel), List.mem_of_getElem? (i := 262) (by decide +kernel)⟩
theorem lw_p11 : lw_okq (⟨"TooMany", "cheapestDeal", "(LTooMany$Flight;I)J"⟩, 8) := ⟨⟨by decide +kernel, by decide +kernel⟩, List.mem_of_getElem? (i := 12) (by decide +kernel), List.mem_of_getElem? (i := 278) (by decide +kernel), List.mem_of_getElem? (i := 279) (by decide +kernel)⟩
theorem lw_p12 : lw_okq (⟨"TooMany", "offerDeals", "(IIJ)V"⟩, 8) := ⟨⟨by decide +kernel, by decide +kernel⟩, List.mem_of_getElem? (i := 12) (by decide +kernel), List.mem_of_getElem? (i := 288) (by decide +kernel), List.mem_of_getElem? (i := 289) (by decide +kernel)⟩
theorem lw_p13 : lw_okq (⟨"TooMany", "leastDeal", "(II)J"⟩, 8) := ⟨⟨by decide +kernel, by decide +kernel⟩, List.mem_of_getElem? (i := 12) (by decide +kernel), List.mem_of_getElem? (i := 292) (by decide +kernel), List.mem_of_getElem? (i := 293) (by decide +kernel)⟩
theorem lw_p14 : lw_okq (⟨"TooMany", "lowestBidders", "(LTooMany$Flight;I)I"⟩, 8) := ⟨⟨by decide +kernel, by decide +kernel⟩, List.mem_of_getElem? (i := 12) (by decide +kernel), List.mem_of_getElem? (i := 314) (by decide +kernel), List.mem_of_getElem? (i := 315) (by decide +kernel)⟩
theorem lw_p15 : lw_okq (⟨"TooMany", "nextBidder", "(LTooMany$Flight;I)I"⟩, 8) := ⟨⟨by decide +kernel, by decide +kernel⟩, List.mem_of_getElem? (i := 12) (by decide +kernel), List.mem_of_getElem? (i := 318) (by decide +kernel), List.mem_of_getElem? (i := 319) (by decide +kernel)⟩
def lw_privs_1 : List (MethodName × Nat) := [(⟨"TooMany", "flightAt", "(I)LTooMany$Flight;"⟩, 8), (⟨"TooMany", "setChange", "(I)I"⟩, 8), (⟨"TooMany", "loadOf", "(LTooMany$Flight;)I"⟩, 8), (⟨"TooMany", "overOf", "(LTooMany$Flight;)I"⟩, 8), (⟨"TooMany", "mustPeople", "(LTooMany$Flight;)I"⟩, 8), (⟨"TooMany", "flyingPeople", "()I"⟩, 8), (⟨"TooMany", "peopleIn", "(I)I"⟩, 8), (⟨"TooMany", "peopleWithWay", "()I"⟩, 8), (⟨"TooMany", "allClaims", "()I"⟩, 8), (⟨"TooMany", "claimOf", "(LTooMany$Party;)I"⟩, 8), (⟨"TooMany", "baseFee", "(I)I"⟩, 8), (⟨"TooMany", "cheapestDeal", "(LTooMany$Flight;I)J"⟩, 8), (⟨"TooMany", "offerDeals", "(IIJ)V"⟩, 8), (⟨"TooMany", "leastDeal", "(II)J"⟩, 8), (⟨"TooMany", "lowestBidders", "(LTooMany$Flight;I)I"⟩, 8), (⟨"TooMany", "nextBidder", "(LTooMany$Flight;I)I"⟩, 8)]
theorem lw_r1 : ∀ q ∈ lw_privs_1, lw_okq q := List.forall_mem_cons.mpr ⟨lw_p0, List.forall_mem_cons.mpr ⟨lw_p1, List.forall_mem_cons.mpr ⟨lw_p2, List.forall_mem_cons.mpr ⟨lw_p3, List.forall_mem_cons.mpr ⟨lw_p4, List.forall_mem_cons.mpr ⟨lw_p5, List.forall_mem_cons.mpr ⟨lw_p6, List.forall_mem_cons.mpr ⟨lw_p7, List.forall_mem_cons.mpr ⟨lw_p8, List.forall_mem_cons.mpr ⟨lw_p9, List.forall_mem_cons.mpr ⟨lw_p10, List.forall_mem_cons.mpr ⟨lw_p11, List.forall_mem_cons.mpr ⟨lw_p12, List.forall_mem_cons.mpr ⟨lw_p13, List.forall_mem_cons.mpr ⟨lw_p14, List.forall_mem_cons.mpr ⟨lw_p15, fun _ h => absurd h List.not_mem_nil⟩⟩⟩⟩⟩⟩⟩⟩⟩⟩⟩⟩⟩⟩⟩⟩
theorem lw_p16 : lw_okq (⟨"TooMany", "highestBid", "(I)I"⟩, 8) := ⟨⟨by decide +kernel, by decide +kernel⟩, List.mem_of_getElem? (i := 12) (by decide +kernel), List.mem_of_getElem? (i := 322) (by decide +kernel), List.mem_of_getElem? (i := 323) (by decide +kernel)⟩
theorem lw_p17 : lw_okq (⟨"TooMany", "leavablePeople", "(LTooMany$Flight;)I"⟩, 8) := ⟨⟨by decide +kernel, by decide +kernel⟩, List.mem_of_getElem? (i := 12) (by decide +kernel), List.mem_of_getElem? (i := 333) (by decide +kernel), List.mem_of_getElem? (i := 334) (by decide +kernel)⟩
theorem lw_p18 : lw_okq (⟨"TooMany", "nextToLeave", "(LTooMany$Flight;)LTooMany$Party;"⟩, 8) := ⟨⟨by decide +kernel, by decide +kernel⟩, List.mem_of_getElem? (i := 12) (by decide +kernel), List.mem_of_getElem? (i := 337) (by decide +kernel), List.mem_of_getElem? (i := 338) (by decide +kernel)⟩
theorem lw_p19 : lw_okq (⟨"TooMany", "partyAt", "(I)LTooMany$Party;"⟩, 8) := ⟨⟨by decide +kernel, by decide +kernel⟩, List.mem_of_getElem? (i := 12) (by decide +kernel), List.mem_of_getElem? (i := 345) (by decide +kernel), List.mem_of_getElem? (i := 346) (by decide +kernel)⟩
theorem lw_p20 : lw_okq (⟨"TooMany", "isWay", "(LTooMany$Party;LTooMany$Flight;LTooMany$Flight;)Z"⟩, 8) := ⟨⟨by decide +kernel, by decide +kernel⟩, List.mem_of_getElem? (i := 12) (by decide +kernel), List.mem_of_getElem? (i := 362) (by decide +kernel), List.mem_of_getElem? (i := 363) (by decide +kernel)⟩
theorem lw_p21 : lw_okq (⟨"TooMany", "addStranded", "(I)V"⟩, 8) := ⟨⟨by decide +kernel, by decide +kernel⟩, List.mem_of_getElem? (i := 12) (by decide +kernel), List.mem_of_getElem? (i := 384) (by decide +kernel), List.mem_of_getElem? (i := 385) (by decide +kernel)⟩
theorem lw_p22 : lw_okq (⟨"TooMany$Mover", "lastTwin", "(LTooMany$Party;)I"⟩, 13) := ⟨⟨by decide +kernel, by decide +kernel⟩, List.mem_of_getElem? (i := 24) (by decide +kernel), List.mem_of_getElem? (i := 392) (by decide +kernel), List.mem_of_getElem? (i := 393) (by decide +kernel)⟩
theorem lw_p23 : lw_okq (⟨"TooMany", "addWays", "(LTooMany$Party;)V"⟩, 8) := ⟨⟨by decide +kernel, by decide +kernel⟩, List.mem_of_getElem? (i := 12) (by decide +kernel), List.mem_of_getElem? (i := 396) (by decide +kernel), List.mem_of_getElem? (i := 397) (by decide +kernel)⟩
theorem lw_p24 : lw_okq (⟨"TooMany$Mover", "worthOf", "(III)J"⟩, 13) := ⟨⟨by decide +kernel, by decide +kernel⟩, List.mem_of_getElem? (i := 24) (by decide +kernel), List.mem_of_getElem? (i := 405) (by decide +kernel), List.mem_of_getElem? (i := 406) (by decide +kernel)⟩
theorem lw_p25 : lw_okq (⟨"TooMany$Mover", "putWay", "(ILTooMany$Flight;LTooMany$Flight;IJ)V"⟩, 13) := ⟨⟨by decide +kernel, by decide +kernel⟩, List.mem_of_getElem? (i := 24) (by decide +kernel), List.mem_of_getElem? (i := 410) (by decide +kernel), List.mem_of_getElem? (i := 411) (by decide +kernel)⟩
theorem lw_p26 : lw_okq (⟨"TooMany$Mover", "choose", "(IJ)V"⟩, 13) := ⟨⟨by decide +kernel, by decide +kernel⟩, List.mem_of_getElem? (i := 24) (by decide +kernel), List.mem_of_getElem? (i := 418) (by decide +kernel), List.mem_of_getElem? (i := 419) (by decide +kernel)⟩
theorem lw_p27 : lw_okq (⟨"TooMany$Mover", "keepIfBetter", "(J)V"⟩, 13) := ⟨⟨by decide +kernel, by decide +kernel⟩, List.mem_of_getElem? (i := 24) (by decide +kernel), List.mem_of_getElem? (i := 422) (by decide +kernel), List.mem_of_getElem? (i := 423) (by decide +kernel)⟩
theorem lw_p28 : lw_okq (⟨"TooMany$Mover", "mayBeat", "(IJ)Z"⟩, 13) := ⟨⟨by decide +kernel, by decide +kernel⟩, List.mem_of_getElem? (i := 24) (by decide +kernel), List.mem_of_getElem? (i := 426) (by decide +kernel), List.mem_of_getElem? (i := 427) (by decide +kernel)⟩
theorem lw_p29 : lw_okq (⟨"TooMany$Mover", "mostWorth", "(I)J"⟩, 13) := ⟨⟨by decide +kernel, by decide +kernel⟩, List.mem_of_getElem? (i := 24) (by decide +kernel), List.mem_of_getElem? (i := 430) (by decide +kernel), List.mem_of_getElem? (i := 431) (by decide +kernel)⟩
theorem lw_p30 : lw_okq (⟨"TooMany$Mover", "fits", "(II)Z"⟩, 13) := ⟨⟨by decide +kernel, by decide +kernel⟩, List.mem_of_getElem? (i := 24) (by decide +kernel), List.mem_of_getElem? (i := 434) (by decide +kernel), List.mem_of_getElem? (i := 435) (by decide +kernel)⟩
theorem lw_p31 : lw_okq (⟨"TooMany$Mover", "twinPlace", "(I)I"⟩, 13) := ⟨⟨by decide +kernel, by decide +kernel⟩, List.mem_of_getElem? (i := 24) (by decide +kernel), List.mem_of_getElem? (i := 438) (by decide +kernel), List.mem_of_getElem? (i := 439) (by decide +kernel)⟩
def lw_privs_2 : List (MethodName × Nat) := [(⟨"TooMany", "highestBid", "(I)I"⟩, 8), (⟨"TooMany", "leavablePeople", "(LTooMany$Flight;)I"⟩, 8), (⟨"TooMany", "nextToLeave", "(LTooMany$Flight;)LTooMany$Party;"⟩, 8), (⟨"TooMany", "partyAt", "(I)LTooMany$Party;"⟩, 8), (⟨"TooMany", "isWay", "(LTooMany$Party;LTooMany$Flight;LTooMany$Flight;)Z"⟩, 8), (⟨"TooMany", "addStranded", "(I)V"⟩, 8), (⟨"TooMany$Mover", "lastTwin", "(LTooMany$Party;)I"⟩, 13), (⟨"TooMany", "addWays", "(LTooMany$Party;)V"⟩, 8), (⟨"TooMany$Mover", "worthOf", "(III)J"⟩, 13), (⟨"TooMany$Mover", "putWay", "(ILTooMany$Flight;LTooMany$Flight;IJ)V"⟩, 13), (⟨"TooMany$Mover", "choose", "(IJ)V"⟩, 13), (⟨"TooMany$Mover", "keepIfBetter", "(J)V"⟩, 13), (⟨"TooMany$Mover", "mayBeat", "(IJ)Z"⟩, 13), (⟨"TooMany$Mover", "mostWorth", "(I)J"⟩, 13), (⟨"TooMany$Mover", "fits", "(II)Z"⟩, 13), (⟨"TooMany$Mover", "twinPlace", "(I)I"⟩, 13)]
theorem lw_r2 : ∀ q ∈ lw_privs_2, lw_okq q := List.forall_mem_cons.mpr ⟨lw_p16, List.forall_mem_cons.mpr ⟨lw_p17, List.forall_mem_cons.mpr ⟨lw_p18, List.forall_mem_cons.mpr ⟨lw_p19, List.forall_mem_cons.mpr ⟨lw_p20, List.forall_mem_cons.mpr ⟨lw_p21, List.forall_mem_cons.mpr ⟨lw_p22, List.forall_mem_cons.mpr ⟨lw_p23, List.forall_mem_cons.mpr ⟨lw_p24, List.forall_mem_cons.mpr ⟨lw_p25, List.forall_mem_cons.mpr ⟨lw_p26, List.forall_mem_cons.mpr ⟨lw_p27, List.forall_mem_cons.mpr ⟨lw_p28, List.forall_mem_cons.mpr ⟨lw_p29, List.forall_mem_cons.mpr ⟨lw_p30, List.forall_mem_cons.mpr ⟨lw_p31, fun _ h => absurd h List.not_mem_nil⟩⟩⟩⟩⟩⟩⟩⟩⟩⟩⟩⟩⟩⟩⟩⟩
theorem lw_p32 : lw_okq (⟨"TooMany$Mover", "betterHasRoom", "(II)Z"⟩, 13) := ⟨⟨by decide +kernel, by decide +kernel⟩, List.mem_of_getElem? (i := 24) (by decide +kernel), List.mem_of_getElem? (i := 442) (by decide +kernel), List.mem_of_getElem? (i := 443) (by decide +kernel)⟩
theorem lw_p33 : lw_okq (⟨"TooMany$Mover", "hasRoom", "(IILTooMany$Flight;)Z"⟩, 13) := ⟨⟨by decide +kernel, by decide +kernel⟩, List.mem_of_getElem? (i := 24) (by decide +kernel), List.mem_of_getElem? (i := 446) (by decide +kernel), List.mem_of_getElem? (i := 447) (by decide +kernel)⟩
theorem lw_p34 : lw_okq (⟨"TooMany$Mover", "fill", "(II)V"⟩, 13) := ⟨⟨by decide +kernel, by decide +kernel⟩, List.mem_of_getElem? (i := 24) (by decide +kernel), List.mem_of_getElem? (i := 450) (by decide +kernel), List.mem_of_getElem? (i := 451) (by decide +kernel)⟩
theorem lw_p35 : lw_okq (⟨"java/lang/Throwable", "fillInStackTrace", "(I)Ljava/lang/Throwable;"⟩, 6) := ⟨⟨by decide +kernel, by decide +kernel⟩, List.mem_of_getElem? (i := 511) (by decide +kernel), List.mem_of_getElem? (i := 509) (by decide +kernel), List.mem_of_getElem? (i := 510) (by decide +kernel)⟩
theorem lw_p36 : lw_okq (⟨"TooManyModel", "isFlight", "(I)Z"⟩, 20) := ⟨⟨by decide +kernel, by decide +kernel⟩, List.mem_of_getElem? (i := 545) (by decide +kernel), List.mem_of_getElem? (i := 627) (by decide +kernel), List.mem_of_getElem? (i := 628) (by decide +kernel)⟩
theorem lw_p37 : lw_okq (⟨"TooManyModel", "load", "(I)I"⟩, 20) := ⟨⟨by decide +kernel, by decide +kernel⟩, List.mem_of_getElem? (i := 545) (by decide +kernel), List.mem_of_getElem? (i := 643) (by decide +kernel), List.mem_of_getElem? (i := 644) (by decide +kernel)⟩
theorem lw_p38 : lw_okq (⟨"TooManyModel", "get", "(II)I"⟩, 20) := ⟨⟨by decide +kernel, by decide +kernel⟩, List.mem_of_getElem? (i := 545) (by decide +kernel), List.mem_of_getElem? (i := 647) (by decide +kernel), List.mem_of_getElem? (i := 648) (by decide +kernel)⟩
theorem lw_p39 : lw_okq (⟨"TooManyModel", "over", "(I)I"⟩, 20) := ⟨⟨by decide +kernel, by decide +kernel⟩, List.mem_of_getElem? (i := 545) (by decide +kernel), List.mem_of_getElem? (i := 651) (by decide +kernel), List.mem_of_getElem? (i := 652) (by decide +kernel)⟩
theorem lw_p40 : lw_okq (⟨"TooManyModel", "of7", "(II)I"⟩, 20) := ⟨⟨by decide +kernel, by decide +kernel⟩, List.mem_of_getElem? (i := 545) (by decide +kernel), List.mem_of_getElem? (i := 655) (by decide +kernel), List.mem_of_getElem? (i := 656) (by decide +kernel)⟩
theorem lw_p41 : lw_okq (⟨"TooManyModel", "isParty", "(I)Z"⟩, 20) := ⟨⟨by decide +kernel, by decide +kernel⟩, List.mem_of_getElem? (i := 545) (by decide +kernel), List.mem_of_getElem? (i := 664) (by decide +kernel), List.mem_of_getElem? (i := 665) (by decide +kernel)⟩
theorem lw_p42 : lw_okq (⟨"TooManyModel", "lateOf", "(I)I"⟩, 20) := ⟨⟨by decide +kernel, by decide +kernel⟩, List.mem_of_getElem? (i := 545) (by decide +kernel), List.mem_of_getElem? (i := 668) (by decide +kernel), List.mem_of_getElem? (i := 669) (by decide +kernel)⟩
theorem lw_p43 : lw_okq (⟨"TooManyModel", "claim", "(I)I"⟩, 20) := ⟨⟨by decide +kernel, by decide +kernel⟩, List.mem_of_getElem? (i := 545) (by decide +kernel), List.mem_of_getElem? (i := 672) (by decide +kernel), List.mem_of_getElem? (i := 673) (by decide +kernel)⟩
theorem lw_p44 : lw_okq (⟨"TooManyModel", "findBest", "(I)I"⟩, 20) := ⟨⟨by decide +kernel, by decide +kernel⟩, List.mem_of_getElem? (i := 545) (by decide +kernel), List.mem_of_getElem? (i := 684) (by decide +kernel), List.mem_of_getElem? (i := 685) (by decide +kernel)⟩
theorem lw_p45 : lw_okq (⟨"TooManyModel", "mayGive", "(II)Z"⟩, 20) := ⟨⟨by decide +kernel, by decide +kernel⟩, List.mem_of_getElem? (i := 545) (by decide +kernel), List.mem_of_getElem? (i := 689) (by decide +kernel), List.mem_of_getElem? (i := 690) (by decide +kernel)⟩
theorem lw_p46 : lw_okq (⟨"TooManyModel", "give", "(II)V"⟩, 20) := ⟨⟨by decide +kernel, by decide +kernel⟩, List.mem_of_getElem? (i := 545) (by decide +kernel), List.mem_of_getElem? (i := 697) (by decide +kernel), List.mem_of_getElem? (i := 698) (by decide +kernel)⟩
theorem lw_p47 : lw_okq (⟨"TooManyModel", "put", "(III)V"⟩, 20) := ⟨⟨by decide +kernel, by decide +kernel⟩, List.mem_of_getElem? (i := 545) (by decide +kernel), List.mem_of_getElem? (i := 701) (by decide +kernel), List.mem_of_getElem? (i := 702) (by decide +kernel)⟩
def lw_privs_3 : List (MethodName × Nat) := [(⟨"TooMany$Mover", "betterHasRoom", "(II)Z"⟩, 13), (⟨"TooMany$Mover", "hasRoom", "(IILTooMany$Flight;)Z"⟩, 13), (⟨"TooMany$Mover", "fill", "(II)V"⟩, 13), (⟨"java/lang/Throwable", "fillInStackTrace", "(I)Ljava/lang/Throwable;"⟩, 6), (⟨"TooManyModel", "isFlight", "(I)Z"⟩, 20), (⟨"TooManyModel", "load", "(I)I"⟩, 20), (⟨"TooManyModel", "get", "(II)I"⟩, 20), (⟨"TooManyModel", "over", "(I)I"⟩, 20), (⟨"TooManyModel", "of7", "(II)I"⟩, 20), (⟨"TooManyModel", "isParty", "(I)Z"⟩, 20), (⟨"TooManyModel", "lateOf", "(I)I"⟩, 20), (⟨"TooManyModel", "claim", "(I)I"⟩, 20), (⟨"TooManyModel", "findBest", "(I)I"⟩, 20), (⟨"TooManyModel", "mayGive", "(II)Z"⟩, 20), (⟨"TooManyModel", "give", "(II)V"⟩, 20), (⟨"TooManyModel", "put", "(III)V"⟩, 20)]
theorem lw_r3 : ∀ q ∈ lw_privs_3, lw_okq q := List.forall_mem_cons.mpr ⟨lw_p32, List.forall_mem_cons.mpr ⟨lw_p33, List.forall_mem_cons.mpr ⟨lw_p34, List.forall_mem_cons.mpr ⟨lw_p35, List.forall_mem_cons.mpr ⟨lw_p36, List.forall_mem_cons.mpr ⟨lw_p37, List.forall_mem_cons.mpr ⟨lw_p38, List.forall_mem_cons.mpr ⟨lw_p39, List.forall_mem_cons.mpr ⟨lw_p40, List.forall_mem_cons.mpr ⟨lw_p41, List.forall_mem_cons.mpr ⟨lw_p42, List.forall_mem_cons.mpr ⟨lw_p43, List.forall_mem_cons.mpr ⟨lw_p44, List.forall_mem_cons.mpr ⟨lw_p45, List.forall_mem_cons.mpr ⟨lw_p46, List.forall_mem_cons.mpr ⟨lw_p47, fun _ h => absurd h List.not_mem_nil⟩⟩⟩⟩⟩⟩⟩⟩⟩⟩⟩⟩⟩⟩⟩⟩
theorem lw_p48 : lw_okq (⟨"TooManyModel", "lateBy", "(III)I"⟩, 20) := ⟨⟨by decide +kernel, by decide +kernel⟩, List.mem_of_getElem? (i := 545) (by decide +kernel), List.mem_of_getElem? (i := 721) (by decide +kernel), List.mem_of_getElem? (i := 722) (by decide +kernel)⟩
theorem lw_p49 : lw_okq (⟨"TooManyModel", "strandedMany", "()I"⟩, 20) := ⟨⟨by decide +kernel, by decide +kernel⟩, List.mem_of_getElem? (i := 545) (by decide +kernel), List.mem_of_getElem? (i := 729) (by decide +kernel), List.mem_of_getElem? (i := 730) (by decide +kernel)⟩
theorem lw_p50 : lw_okq (⟨"TooManyModel", "findWays", "(I)V"⟩, 20) := ⟨⟨by decide +kernel, by decide +kernel⟩, List.mem_of_getElem? (i := 545) (by decide +kernel), List.mem_of_getElem? (i := 737) (by decide +kernel), List.mem_of_getElem? (i := 738) (by decide +kernel)⟩
theorem lw_p51 : lw_okq (⟨"TooManyModel", "goOn", "(III)V"⟩, 20) := ⟨⟨by decide +kernel, by decide +kernel⟩, List.mem_of_getElem? (i := 545) (by decide +kernel), List.mem_of_getElem? (i := 744) (by decide +kernel), List.mem_of_getElem? (i := 745) (by decide +kernel)⟩
theorem lw_p52 : lw_okq (⟨"TooManyModel", "hasRoom", "(II)Z"⟩, 20) := ⟨⟨by decide +kernel, by decide +kernel⟩, List.mem_of_getElem? (i := 545) (by decide +kernel), List.mem_of_getElem? (i := 748) (by decide +kernel), List.mem_of_getElem? (i := 749) (by decide +kernel)⟩
def lw_privs_4 : List (MethodName × Nat) := [(⟨"TooManyModel", "lateBy", "(III)I"⟩, 20), (⟨"TooManyModel", "strandedMany", "()I"⟩, 20), (⟨"TooManyModel", "findWays", "(I)V"⟩, 20), (⟨"TooManyModel", "goOn", "(III)V"⟩, 20), (⟨"TooManyModel", "hasRoom", "(II)Z"⟩, 20)]
theorem lw_r4 : ∀ q ∈ lw_privs_4, lw_okq q := List.forall_mem_cons.mpr ⟨lw_p48, List.forall_mem_cons.mpr ⟨lw_p49, List.forall_mem_cons.mpr ⟨lw_p50, List.forall_mem_cons.mpr ⟨lw_p51, List.forall_mem_cons.mpr ⟨lw_p52, fun _ h => absurd h List.not_mem_nil⟩⟩⟩⟩⟩
def lw_privs : List (MethodName × Nat) := lw_privs_1 ++ (lw_privs_2 ++ (lw_privs_3 ++ (lw_privs_4)))
def lw_tbl : List Cond := k2_sels lw_privs ++ tables_1
theorem lw_privs_ok : ∀ q ∈ lw_privs, lw_okq q := by
  show ∀ q ∈ lw_privs_1 ++ (lw_privs_2 ++ (lw_privs_3 ++ (lw_privs_4))), lw_okq q
  exact List.forall_mem_append.mpr ⟨lw_r1, List.forall_mem_append.mpr ⟨lw_r2, List.forall_mem_append.mpr ⟨lw_r3, lw_r4⟩⟩⟩
end
section
def RX0 : String := "TooMany$Flight"
def TX0 : u_T := fun k => match k with
  | 0 => ("TooMany$Flight", "number", "I", true)
  | 1 => ("TooMany$Flight", "from", "I", true)
  | 2 => ("TooMany$Flight", "to", "I", true)
  | 3 => ("TooMany$Flight", "departs", "I", true)
  | 4 => ("TooMany$Flight", "arrives", "I", true)
  | 5 => ("TooMany$Flight", "seats", "I", true)
  | 6 => ("TooMany$Flight", "miles", "I", true)
  | 7 => ("TooMany$Flight", "isOff", "Z", false)
  | _ => ("TooMany$Flight", "free", "I", false)
def tyX0 : Nat → FieldType := fun k => match k with
  | 0 => .int
  | 1 => .int
  | 2 => .int
  | 3 => .int
  | 4 => .int
  | 5 => .int
  | 6 => .int
  | 7 => .boolean
  | _ => .int
abbrev wsX00 : List Cond := u_ws RX0 TX0 9
theorem nmX0 : ∀ a, a < 9 → ∀ b, b < 9 → a ≠ b → (TX0 a).2.1 ≠ (TX0 b).2.1 := by decide +kernel
theorem tyX0_ok : ∀ k, k < 9 → parseFieldDescriptor (TX0 k).2.2.1 = some (tyX0 k) := by decide +kernel
abbrev cX0_init : ByteArray := prog_2_method_1_code
def yX0_init : MethodName := ⟨RX0, "<init>", "(IIIIIII)V"⟩
def RX1 : String := "TooMany$Mover"
def TX1 : u_T := fun k => match k with
  | 0 => ("TooMany$Mover", "party", "[LTooMany$Party;", true)
  | 1 => ("TooMany$Mover", "turn", "[I", true)
  | 2 => ("TooMany$Mover", "twin", "[I", true)
  | 3 => ("TooMany$Mover", "ways", "[I", true)
  | 4 => ("TooMany$Mover", "pick", "[I", true)
  | 5 => ("TooMany$Mover", "best", "[I", true)
  | 6 => ("TooMany$Mover", "peopleFrom", "[I", true)
  | 7 => ("TooMany$Mover", "first", "[LTooMany$Flight;", true)
  | 8 => ("TooMany$Mover", "second", "[LTooMany$Flight;", true)
  | 9 => ("TooMany$Mover", "place", "[I", true)
  | 10 => ("TooMany$Mover", "worth", "[J", true)
  | 11 => ("TooMany$Mover", "bestSum", "J", false)
  | _ => ("TooMany$Mover", "count", "I", false)
def tyX1 : Nat → FieldType := fun k => match k with
  | 0 => .array (.object "TooMany$Party")
  | 1 => .array .int
  | 2 => .array .int
  | 3 => .array .int
  | 4 => .array .int
  | 5 => .array .int
  | 6 => .array .int
  | 7 => .array (.object "TooMany$Flight")
  | 8 => .array (.object "TooMany$Flight")
  | 9 => .array .int
  | 10 => .array .long
  | 11 => .long
  | _ => .int
abbrev wsX10 : List Cond := u_ws RX1 TX1 13
theorem nmX1 : ∀ a, a < 13 → ∀ b, b < 13 → a ≠ b → (TX1 a).2.1 ≠ (TX1 b).2.1 := by decide +kernel
theorem tyX1_ok : ∀ k, k < 13 → parseFieldDescriptor (TX1 k).2.2.1 = some (tyX1 k) := by decide +kernel
abbrev cX1_init : ByteArray := prog_3_method_1_code
def yX1_init : MethodName := ⟨RX1, "<init>", "()V"⟩
abbrev cX1_begin : ByteArray := prog_3_method_2_code
def yX1_begin : MethodName := ⟨RX1, "begin", "()V"⟩
abbrev cX1_addParty : ByteArray := prog_3_method_3_code
def yX1_addParty : MethodName := ⟨RX1, "addParty", "(LTooMany$Party;I)V"⟩
abbrev cX1_addWay : ByteArray := prog_3_method_4_code
def yX1_addWay : MethodName := ⟨RX1, "addWay", "(LTooMany$Flight;LTooMany$Flight;)V"⟩
abbrev cX1_findBest : ByteArray := prog_3_method_5_code
def yX1_findBest : MethodName := ⟨RX1, "findBest", "()V"⟩
abbrev cX1_giveWays : ByteArray := prog_3_method_6_code
def yX1_giveWays : MethodName := ⟨RX1, "giveWays", "()I"⟩
abbrev cX1_lastTwin : ByteArray := prog_3_method_7_code
def yX1_lastTwin : MethodName := ⟨RX1, "lastTwin", "(LTooMany$Party;)I"⟩
abbrev cX1_worthOf : ByteArray := prog_3_method_8_code
def yX1_worthOf : MethodName := ⟨RX1, "worthOf", "(III)J"⟩
abbrev cX1_putWay : ByteArray := prog_3_method_9_code
def yX1_putWay : MethodName := ⟨RX1, "putWay", "(ILTooMany$Flight;LTooMany$Flight;IJ)V"⟩
abbrev cX1_choose : ByteArray := prog_3_method_10_code
def yX1_choose : MethodName := ⟨RX1, "choose", "(IJ)V"⟩
abbrev cX1_twinPlace : ByteArray := prog_3_method_11_code
def yX1_twinPlace : MethodName := ⟨RX1, "twinPlace", "(I)I"⟩
abbrev cX1_keepIfBetter : ByteArray := prog_3_method_12_code
def yX1_keepIfBetter : MethodName := ⟨RX1, "keepIfBetter", "(J)V"⟩
abbrev cX1_mayBeat : ByteArray := prog_3_method_13_code
def yX1_mayBeat : MethodName := ⟨RX1, "mayBeat", "(IJ)Z"⟩
abbrev cX1_mostWorth : ByteArray := prog_3_method_14_code
def yX1_mostWorth : MethodName := ⟨RX1, "mostWorth", "(I)J"⟩
abbrev cX1_fits : ByteArray := prog_3_method_15_code
def yX1_fits : MethodName := ⟨RX1, "fits", "(II)Z"⟩
abbrev cX1_fill : ByteArray := prog_3_method_16_code
def yX1_fill : MethodName := ⟨RX1, "fill", "(II)V"⟩
abbrev cX1_betterHasRoom : ByteArray := prog_3_method_17_code
def yX1_betterHasRoom : MethodName := ⟨RX1, "betterHasRoom", "(II)Z"⟩
abbrev cX1_hasRoom : ByteArray := prog_3_method_18_code
def yX1_hasRoom : MethodName := ⟨RX1, "hasRoom", "(IILTooMany$Flight;)Z"⟩
def RX2 : String := "TooMany$Party"
def TX2 : u_T := fun k => match k with
  | 0 => ("TooMany$Party", "own", "LTooMany$Flight;", true)
  | 1 => ("TooMany$Party", "size", "I", true)
  | 2 => ("TooMany$Party", "rank", "I", true)
  | 3 => ("TooMany$Party", "bid", "I", true)
  | 4 => ("TooMany$Party", "must", "Z", true)
  | 5 => ("TooMany$Party", "state", "I", false)
  | 6 => ("TooMany$Party", "coin", "I", false)
  | 7 => ("TooMany$Party", "first", "LTooMany$Flight;", false)
  | _ => ("TooMany$Party", "second", "LTooMany$Flight;", false)
def tyX2 : Nat → FieldType := fun k => match k with
  | 0 => .object "TooMany$Flight"
  | 1 => .int
  | 2 => .int
  | 3 => .int
  | 4 => .boolean
  | 5 => .int
  | 6 => .int
  | 7 => .object "TooMany$Flight"
  | _ => .object "TooMany$Flight"
abbrev wsX20 : List Cond := u_ws RX2 TX2 9
theorem nmX2 : ∀ a, a < 9 → ∀ b, b < 9 → a ≠ b → (TX2 a).2.1 ≠ (TX2 b).2.1 := by decide +kernel
theorem tyX2_ok : ∀ k, k < 9 → parseFieldDescriptor (TX2 k).2.2.1 = some (tyX2 k) := by decide +kernel
abbrev cX2_init : ByteArray := prog_4_method_1_code
def yX2_init : MethodName := ⟨RX2, "<init>", "(LTooMany$Flight;IIIZ)V"⟩
abbrev cX2_fliesOn : ByteArray := prog_4_method_2_code
def yX2_fliesOn : MethodName := ⟨RX2, "fliesOn", "(LTooMany$Flight;)Z"⟩
abbrev cX2_wouldGive : ByteArray := prog_4_method_3_code
def yX2_wouldGive : MethodName := ⟨RX2, "wouldGive", "(LTooMany$Flight;)Z"⟩
abbrev cX2_isStranded : ByteArray := prog_4_method_4_code
def yX2_isStranded : MethodName := ⟨RX2, "isStranded", "()Z"⟩
abbrev cX2_giveUp : ByteArray := prog_4_method_5_code
def yX2_giveUp : MethodName := ⟨RX2, "giveUp", "(II)V"⟩
abbrev cX2_takeWay : ByteArray := prog_4_method_6_code
def yX2_takeWay : MethodName := ⟨RX2, "takeWay", "(LTooMany$Flight;LTooMany$Flight;)V"⟩
abbrev cX2_flyAgain : ByteArray := prog_4_method_7_code
def yX2_flyAgain : MethodName := ⟨RX2, "flyAgain", "()V"⟩
abbrev cX2_lateBy : ByteArray := prog_4_method_8_code
def yX2_lateBy : MethodName := ⟨RX2, "lateBy", "(LTooMany$Flight;LTooMany$Flight;)I"⟩
abbrev cX2_lateByWay : ByteArray := prog_4_method_9_code
def yX2_lateByWay : MethodName := ⟨RX2, "lateByWay", "()I"⟩
def RX3 : String := "TooMany"
def TX3 : u_T := fun k => match k with
  | 0 => ("TooMany", "flights", "[LTooMany$Flight;", true)
  | 1 => ("TooMany", "parties", "[LTooMany$Party;", true)
  | 2 => ("TooMany", "fees", "[I", true)
  | 3 => ("TooMany", "cheapest", "[J", true)
  | 4 => ("TooMany", "mover", "LTooMany$Mover;", true)
  | 5 => ("TooMany", "flightCount", "I", false)
  | 6 => ("TooMany", "partyCount", "I", false)
  | _ => ("TooMany", "change", "I", false)
def tyX3 : Nat → FieldType := fun k => match k with
  | 0 => .array (.object "TooMany$Flight")
  | 1 => .array (.object "TooMany$Party")
  | 2 => .array .int
  | 3 => .array .long
  | 4 => .object "TooMany$Mover"
  | 5 => .int
  | 6 => .int
  | _ => .int
abbrev wsX30 : List Cond := u_ws RX3 TX3 8
theorem nmX3 : ∀ a, a < 8 → ∀ b, b < 8 → a ≠ b → (TX3 a).2.1 ≠ (TX3 b).2.1 := by decide +kernel
theorem tyX3_ok : ∀ k, k < 8 → parseFieldDescriptor (TX3 k).2.2.1 = some (tyX3 k) := by decide +kernel
abbrev cX3_init : ByteArray := prog_1_method_1_code
def yX3_init : MethodName := ⟨RX3, "<init>", "()V"⟩
abbrev cX3_flight : ByteArray := prog_1_method_2_code
def yX3_flight : MethodName := ⟨RX3, "flight", "(IIIIII)I"⟩
abbrev cX3_off : ByteArray := prog_1_method_3_code
def yX3_off : MethodName := ⟨RX3, "off", "(IZ)Z"⟩
abbrev cX3_party : ByteArray := prog_1_method_4_code
def yX3_party : MethodName := ⟨RX3, "party", "(IIIIZ)I"⟩
abbrev cX3_set : ByteArray := prog_1_method_5_code
def yX3_set : MethodName := ⟨RX3, "set", "(II)I"⟩
abbrev cX3_told : ByteArray := prog_1_method_6_code
def yX3_told : MethodName := ⟨RX3, "told", "(II)I"⟩
abbrev cX3_of : ByteArray := prog_1_method_7_code
def yX3_of : MethodName := ⟨RX3, "of", "(II)I"⟩
abbrev cX3_count : ByteArray := prog_1_method_8_code
def yX3_count : MethodName := ⟨RX3, "count", "(I)I"⟩
abbrev cX3_cost : ByteArray := prog_1_method_9_code
def yX3_cost : MethodName := ⟨RX3, "cost", "(I)I"⟩
abbrev cX3_buy : ByteArray := prog_1_method_10_code
def yX3_buy : MethodName := ⟨RX3, "buy", "(I)I"⟩
abbrev cX3_rounds : ByteArray := prog_1_method_11_code
def yX3_rounds : MethodName := ⟨RX3, "rounds", "(III)I"⟩
abbrev cX3_leave : ByteArray := prog_1_method_12_code
def yX3_leave : MethodName := ⟨RX3, "leave", "(I)I"⟩
abbrev cX3_back : ByteArray := prog_1_method_13_code
def yX3_back : MethodName := ⟨RX3, "back", "(I)Z"⟩
abbrev cX3_late : ByteArray := prog_1_method_14_code
def yX3_late : MethodName := ⟨RX3, "late", "(III)I"⟩
abbrev cX3_stranded : ByteArray := prog_1_method_15_code
def yX3_stranded : MethodName := ⟨RX3, "stranded", "()I"⟩
abbrev cX3_move : ByteArray := prog_1_method_16_code
def yX3_move : MethodName := ⟨RX3, "move", "()I"⟩
abbrev cX3_undo : ByteArray := prog_1_method_17_code
def yX3_undo : MethodName := ⟨RX3, "undo", "()I"⟩
abbrev cX3_within : ByteArray := prog_1_method_18_code
def yX3_within : MethodName := ⟨RX3, "within", "(III)Z"⟩
abbrev cX3_has : ByteArray := prog_1_method_19_code
def yX3_has : MethodName := ⟨RX3, "has", "(JI)Z"⟩
abbrev cX3_flightAt : ByteArray := prog_1_method_20_code
def yX3_flightAt : MethodName := ⟨RX3, "flightAt", "(I)LTooMany$Flight;"⟩
abbrev cX3_partyAt : ByteArray := prog_1_method_21_code
def yX3_partyAt : MethodName := ⟨RX3, "partyAt", "(I)LTooMany$Party;"⟩
abbrev cX3_numberOf : ByteArray := prog_1_method_22_code
def yX3_numberOf : MethodName := ⟨RX3, "numberOf", "(LTooMany$Flight;)I"⟩
abbrev cX3_isOffFlight : ByteArray := prog_1_method_23_code
def yX3_isOffFlight : MethodName := ⟨RX3, "isOffFlight", "(LTooMany$Flight;)Z"⟩
abbrev cX3_setChange : ByteArray := prog_1_method_24_code
def yX3_setChange : MethodName := ⟨RX3, "setChange", "(I)I"⟩
abbrev cX3_loadOf : ByteArray := prog_1_method_25_code
def yX3_loadOf : MethodName := ⟨RX3, "loadOf", "(LTooMany$Flight;)I"⟩
abbrev cX3_overOf : ByteArray := prog_1_method_26_code
def yX3_overOf : MethodName := ⟨RX3, "overOf", "(LTooMany$Flight;)I"⟩
abbrev cX3_mustPeople : ByteArray := prog_1_method_27_code
def yX3_mustPeople : MethodName := ⟨RX3, "mustPeople", "(LTooMany$Flight;)I"⟩
abbrev cX3_flyingPeople : ByteArray := prog_1_method_28_code
def yX3_flyingPeople : MethodName := ⟨RX3, "flyingPeople", "()I"⟩
abbrev cX3_peopleIn : ByteArray := prog_1_method_29_code
def yX3_peopleIn : MethodName := ⟨RX3, "peopleIn", "(I)I"⟩
abbrev cX3_peopleWithWay : ByteArray := prog_1_method_30_code
def yX3_peopleWithWay : MethodName := ⟨RX3, "peopleWithWay", "()I"⟩
abbrev cX3_allClaims : ByteArray := prog_1_method_31_code
def yX3_allClaims : MethodName := ⟨RX3, "allClaims", "()I"⟩
abbrev cX3_claimOf : ByteArray := prog_1_method_32_code
def yX3_claimOf : MethodName := ⟨RX3, "claimOf", "(LTooMany$Party;)I"⟩
abbrev cX3_baseFee : ByteArray := prog_1_method_33_code
def yX3_baseFee : MethodName := ⟨RX3, "baseFee", "(I)I"⟩
abbrev cX3_cheapestDeal : ByteArray := prog_1_method_34_code
def yX3_cheapestDeal : MethodName := ⟨RX3, "cheapestDeal", "(LTooMany$Flight;I)J"⟩
abbrev cX3_offerDeals : ByteArray := prog_1_method_35_code
def yX3_offerDeals : MethodName := ⟨RX3, "offerDeals", "(IIJ)V"⟩
abbrev cX3_leastDeal : ByteArray := prog_1_method_36_code
def yX3_leastDeal : MethodName := ⟨RX3, "leastDeal", "(II)J"⟩
abbrev cX3_coinOfDeal : ByteArray := prog_1_method_37_code
def yX3_coinOfDeal : MethodName := ⟨RX3, "coinOfDeal", "(J)I"⟩
abbrev cX3_lowestBidders : ByteArray := prog_1_method_38_code
def yX3_lowestBidders : MethodName := ⟨RX3, "lowestBidders", "(LTooMany$Flight;I)I"⟩
abbrev cX3_nextBidder : ByteArray := prog_1_method_39_code
def yX3_nextBidder : MethodName := ⟨RX3, "nextBidder", "(LTooMany$Flight;I)I"⟩
abbrev cX3_highestBid : ByteArray := prog_1_method_40_code
def yX3_highestBid : MethodName := ⟨RX3, "highestBid", "(I)I"⟩
abbrev cX3_firstOffer : ByteArray := prog_1_method_41_code
def yX3_firstOffer : MethodName := ⟨RX3, "firstOffer", "(III)I"⟩
abbrev cX3_leavablePeople : ByteArray := prog_1_method_42_code
def yX3_leavablePeople : MethodName := ⟨RX3, "leavablePeople", "(LTooMany$Flight;)I"⟩
abbrev cX3_nextToLeave : ByteArray := prog_1_method_43_code
def yX3_nextToLeave : MethodName := ⟨RX3, "nextToLeave", "(LTooMany$Flight;)LTooMany$Party;"⟩
abbrev cX3_isWay : ByteArray := prog_1_method_44_code
def yX3_isWay : MethodName := ⟨RX3, "isWay", "(LTooMany$Party;LTooMany$Flight;LTooMany$Flight;)Z"⟩
abbrev cX3_addStranded : ByteArray := prog_1_method_45_code
def yX3_addStranded : MethodName := ⟨RX3, "addStranded", "(I)V"⟩
abbrev cX3_addWays : ByteArray := prog_1_method_46_code
def yX3_addWays : MethodName := ⟨RX3, "addWays", "(LTooMany$Party;)V"⟩
def RX4 : String := "TooManyModel"
def TX4 : u_T := fun k => match k with
  | 0 => ("TooManyModel", "flight", "[I", true)
  | 1 => ("TooManyModel", "flights", "I", false)
  | 2 => ("TooManyModel", "party", "[I", true)
  | 3 => ("TooManyModel", "parties", "I", false)
  | 4 => ("TooManyModel", "numbers", "[I", true)
  | 5 => ("TooManyModel", "thrown", "I", false)
  | 6 => ("TooManyModel", "costs", "[I", true)
  | 7 => ("TooManyModel", "bits", "[I", true)
  | 8 => ("TooManyModel", "left", "[I", true)
  | 9 => ("TooManyModel", "leftMany", "I", false)
  | 10 => ("TooManyModel", "ways", "[I", true)
  | 11 => ("TooManyModel", "lates", "[I", true)
  | 12 => ("TooManyModel", "wayMany", "[I", true)
  | 13 => ("TooManyModel", "leastLate", "[I", true)
  | 14 => ("TooManyModel", "most", "[I", true)
  | 15 => ("TooManyModel", "loads", "[I", true)
  | 16 => ("TooManyModel", "tryWay", "[I", true)
  | 17 => ("TooManyModel", "bestWay", "[I", true)
  | 18 => ("TooManyModel", "bestPeople", "I", false)
  | _ => ("TooManyModel", "bestLate", "I", false)
def tyX4 : Nat → FieldType := fun k => match k with
  | 0 => .array .int
  | 1 => .int
  | 2 => .array .int
  | 3 => .int
  | 4 => .array .int
  | 5 => .int
  | 6 => .array .int
  | 7 => .array .int
  | 8 => .array .int
  | 9 => .int
  | 10 => .array .int
  | 11 => .array .int
  | 12 => .array .int
  | 13 => .array .int
  | 14 => .array .int
  | 15 => .array .int
  | 16 => .array .int
  | 17 => .array .int
  | 18 => .int
  | _ => .int
abbrev wsX40 : List Cond := u_ws RX4 TX4 20
theorem nmX4 : ∀ a, a < 20 → ∀ b, b < 20 → a ≠ b → (TX4 a).2.1 ≠ (TX4 b).2.1 := by decide +kernel
theorem tyX4_ok : ∀ k, k < 20 → parseFieldDescriptor (TX4 k).2.2.1 = some (tyX4 k) := by decide +kernel
abbrev cX4_init : ByteArray := prog_6_method_1_code
def yX4_init : MethodName := ⟨RX4, "<init>", "()V"⟩
abbrev cX4_thrown : ByteArray := prog_6_method_2_code
def yX4_thrown : MethodName := ⟨RX4, "thrown", "()I"⟩
abbrev cX4_in : ByteArray := prog_6_method_3_code
def yX4_in : MethodName := ⟨RX4, "in", "(III)Z"⟩
abbrev cX4_isFlight : ByteArray := prog_6_method_4_code
def yX4_isFlight : MethodName := ⟨RX4, "isFlight", "(I)Z"⟩
abbrev cX4_isParty : ByteArray := prog_6_method_5_code
def yX4_isParty : MethodName := ⟨RX4, "isParty", "(I)Z"⟩
abbrev cX4_get : ByteArray := prog_6_method_6_code
def yX4_get : MethodName := ⟨RX4, "get", "(II)I"⟩
abbrev cX4_put : ByteArray := prog_6_method_7_code
def yX4_put : MethodName := ⟨RX4, "put", "(III)V"⟩
abbrev cX4_of7 : ByteArray := prog_6_method_8_code
def yX4_of7 : MethodName := ⟨RX4, "of7", "(II)I"⟩
abbrev cX4_flight : ByteArray := prog_6_method_9_code
def yX4_flight : MethodName := ⟨RX4, "flight", "(IIIIII)I"⟩
abbrev cX4_off : ByteArray := prog_6_method_10_code
def yX4_off : MethodName := ⟨RX4, "off", "(IZ)Z"⟩
abbrev cX4_party : ByteArray := prog_6_method_11_code
def yX4_party : MethodName := ⟨RX4, "party", "(IIIIZ)I"⟩
abbrev cX4_set : ByteArray := prog_6_method_12_code
def yX4_set : MethodName := ⟨RX4, "set", "(II)I"⟩
abbrev cX4_load : ByteArray := prog_6_method_13_code
def yX4_load : MethodName := ⟨RX4, "load", "(I)I"⟩
abbrev cX4_over : ByteArray := prog_6_method_14_code
def yX4_over : MethodName := ⟨RX4, "over", "(I)I"⟩
abbrev cX4_told : ByteArray := prog_6_method_15_code
def yX4_told : MethodName := ⟨RX4, "told", "(II)I"⟩
abbrev cX4_lateBy : ByteArray := prog_6_method_16_code
def yX4_lateBy : MethodName := ⟨RX4, "lateBy", "(III)I"⟩
abbrev cX4_lateOf : ByteArray := prog_6_method_17_code
def yX4_lateOf : MethodName := ⟨RX4, "lateOf", "(I)I"⟩
abbrev cX4_claim : ByteArray := prog_6_method_18_code
def yX4_claim : MethodName := ⟨RX4, "claim", "(I)I"⟩
abbrev cX4_of : ByteArray := prog_6_method_19_code
def yX4_of : MethodName := ⟨RX4, "of", "(II)I"⟩
abbrev cX4_count : ByteArray := prog_6_method_20_code
def yX4_count : MethodName := ⟨RX4, "count", "(I)I"⟩
abbrev cX4_mayGive : ByteArray := prog_6_method_21_code
def yX4_mayGive : MethodName := ⟨RX4, "mayGive", "(II)Z"⟩
abbrev cX4_findBest : ByteArray := prog_6_method_22_code
def yX4_findBest : MethodName := ⟨RX4, "findBest", "(I)I"⟩
abbrev cX4_cost : ByteArray := prog_6_method_23_code
def yX4_cost : MethodName := ⟨RX4, "cost", "(I)I"⟩
abbrev cX4_give : ByteArray := prog_6_method_24_code
def yX4_give : MethodName := ⟨RX4, "give", "(II)V"⟩
abbrev cX4_buy : ByteArray := prog_6_method_25_code
def yX4_buy : MethodName := ⟨RX4, "buy", "(I)I"⟩
abbrev cX4_rounds : ByteArray := prog_6_method_26_code
def yX4_rounds : MethodName := ⟨RX4, "rounds", "(III)I"⟩
abbrev cX4_leave : ByteArray := prog_6_method_27_code
def yX4_leave : MethodName := ⟨RX4, "leave", "(I)I"⟩
abbrev cX4_back : ByteArray := prog_6_method_28_code
def yX4_back : MethodName := ⟨RX4, "back", "(I)Z"⟩
abbrev cX4_late : ByteArray := prog_6_method_29_code
def yX4_late : MethodName := ⟨RX4, "late", "(III)I"⟩
abbrev cX4_findWays : ByteArray := prog_6_method_30_code
def yX4_findWays : MethodName := ⟨RX4, "findWays", "(I)V"⟩
abbrev cX4_hasRoom : ByteArray := prog_6_method_31_code
def yX4_hasRoom : MethodName := ⟨RX4, "hasRoom", "(II)Z"⟩
abbrev cX4_goOn : ByteArray := prog_6_method_32_code
def yX4_goOn : MethodName := ⟨RX4, "goOn", "(III)V"⟩
abbrev cX4_strandedMany : ByteArray := prog_6_method_33_code
def yX4_strandedMany : MethodName := ⟨RX4, "strandedMany", "()I"⟩
abbrev cX4_stranded : ByteArray := prog_6_method_34_code
def yX4_stranded : MethodName := ⟨RX4, "stranded", "()I"⟩
abbrev cX4_move : ByteArray := prog_6_method_35_code
def yX4_move : MethodName := ⟨RX4, "move", "()I"⟩
abbrev cX4_undo : ByteArray := prog_6_method_36_code
def yX4_undo : MethodName := ⟨RX4, "undo", "()I"⟩
def RJ9 : String := "java/lang/Math"
def TJ9 : u_T := fun k => match k with
  | _ => ("", "", "", false)
def tyJ9 : Nat → FieldType := fun k => match k with
  | _ => .int
abbrev wsJ90 : List Cond := u_ws RJ9 TJ9 0
theorem nmJ9 : ∀ a, a < 0 → ∀ b, b < 0 → a ≠ b → (TJ9 a).2.1 ≠ (TJ9 b).2.1 := by decide +kernel
theorem tyJ9_ok : ∀ k, k < 0 → parseFieldDescriptor (TJ9 k).2.2.1 = some (tyJ9 k) := by decide +kernel
abbrev cJ9_max_7cf53 : ByteArray := prog_8_method_65_code
def yJ9_max_7cf53 : MethodName := ⟨RJ9, "max", "(II)I"⟩
abbrev cJ9_min_7cf53 : ByteArray := prog_8_method_69_code
def yJ9_min_7cf53 : MethodName := ⟨RJ9, "min", "(II)I"⟩
def RJ0 : String := "java/lang/String"
def TJ0 : u_T := fun k => match k with
  | _ => ("", "", "", false)
def tyJ0 : Nat → FieldType := fun k => match k with
  | _ => .int
abbrev wsJ00 : List Cond := u_ws RJ0 TJ0 0
theorem nmJ0 : ∀ a, a < 0 → ∀ b, b < 0 → a ≠ b → (TJ0 a).2.1 ≠ (TJ0 b).2.1 := by decide +kernel
theorem tyJ0_ok : ∀ k, k < 0 → parseFieldDescriptor (TJ0 k).2.2.1 = some (tyJ0 k) := by decide +kernel
def RL : String := "TooManyLaw"
abbrev cL_of : ByteArray := method_3_code
def yL_of : MethodName := ⟨RL, "of", "(LTooMany;II[J)I"⟩
abbrev cL_law : ByteArray := code
def yL_law : MethodName := ⟨RL, "law", "([I)Z"⟩
abbrev vwCl : List vw_C := [(RX0, TX0, 9), (RX1, TX1, 13), (RX2, TX2, 9), (RX3, TX3, 8), (RX4, TX4, 20)]
end
section
/-! THE WORLD: every cell that the law makes has a NAME (a number); a state is: the address of each name (ad), which names there are (dm), and what their slots hold: ints (a), longs (b), references as names (r). -/
def gd : List Cond := lw_tbl.filter goodWord
theorem gd_of {w : Cond} (h : w ∈ lw_tbl) (hg : goodWord w = true) : w ∈ gd := List.mem_filter.mpr ⟨h, hg⟩
theorem gd_1 {w : Cond} (i : Nat) (h : tables_1_1[i]? = some w) (hg : goodWord w = true) : w ∈ gd := gd_of (List.mem_append_right _ (List.mem_append_left _ (List.mem_of_getElem? h))) hg
theorem gd_2 {w : Cond} (i : Nat) (h : tables_1_2[i]? = some w) (hg : goodWord w = true) : w ∈ gd := gd_of (List.mem_append_right _ (List.mem_append_right _ (List.mem_append_left _ (List.mem_of_getElem? h)))) hg
theorem gd_3 {w : Cond} (i : Nat) (h : tables_1_3[i]? = some w) (hg : goodWord w = true) : w ∈ gd := gd_of (List.mem_append_right _ (List.mem_append_right _ (List.mem_append_right _ (List.mem_append_left _ (List.mem_of_getElem? h))))) hg
theorem gd_4 {w : Cond} (i : Nat) (h : tables_1_4[i]? = some w) (hg : goodWord w = true) : w ∈ gd := gd_of (List.mem_append_right _ (List.mem_append_right _ (List.mem_append_right _ (List.mem_append_right _ (List.mem_of_getElem? h))))) hg
theorem gd_s {w : Cond} (i : Nat) (h : (k2_sels lw_privs)[i]? = some w) (hg : goodWord w = true) : w ∈ gd := gd_of (List.mem_append_left _ (List.mem_of_getElem? h)) hg
theorem gd_good : ∀ w ∈ gd, (w.onTables && w.keeps) = true ∨ ∃ ty, w = .arrayClass ty := fun _ h => good_of_word (List.mem_filter.mp h).2
/-- kinds of slots: 0 int, 1 long, 2 a reference, n + 3 the reference to the name n, for ever -/
def kds : Nat → List Nat
  | 0 => [0, 0, 0, 0, 0, 0, 0, 0, 0]
  | 1 => [9, 10, 11, 12, 13, 14, 15, 16, 17, 18, 19, 1, 0]
  | 2 => [2, 0, 0, 0, 0, 0, 0, 2, 2]
  | 3 => [4, 5, 6, 7, 8, 0, 0, 0]
  | _ => [104, 0, 105, 0, 106, 0, 107, 108, 109, 0, 110, 111, 112, 113, 114, 115, 116, 117, 0, 0]
/-- of a name: an object of a class, or a row of a kind (0 int, 1 long, 2 flights, 3 parties) and a length -/
def lyX : List (Nat ⊕ Nat × Nat) := [.inl 3, .inr (2, 8), .inr (3, 20), .inr (0, 3), .inr (1, 121), .inl 1, .inr (3, 6), .inr (0, 6), .inr (0, 6), .inr (0, 6), .inr (0, 6), .inr (0, 6), .inr (0, 7), .inr (2, 72), .inr (2, 72), .inr (0, 72), .inr (1, 72)]
def lyM : List (Nat ⊕ Nat × Nat) := [.inl 4, .inr (0, 56), .inr (0, 180), .inr (0, 4), .inr (0, 121), .inr (0, 121), .inr (0, 6), .inr (0, 432), .inr (0, 432), .inr (0, 6), .inr (0, 6), .inr (0, 8), .inr (0, 8), .inr (0, 6), .inr (0, 6), .inr (0, 0), .inr (0, 0), .inr (0, 0), .inr (0, 7), .inr (0, 9)]
def ly (n : Nat) : Nat ⊕ Nat × Nat := if n < 20 then lyX.getD n (.inr (0, 0)) else if n < 30 then .inl 0 else if n < 100 then .inl 2 else if n < 120 then lyM.getD (n - 100) (.inr (0, 0)) else .inr (1, 1)
theorem ly_F {i : Nat} (h : i < 8) : ly (20 + i) = .inl 0 := by
  unfold ly
  rw [if_neg (by omega), if_pos (by omega)]
theorem ly_P {j : Nat} (h : j < 20) : ly (30 + j) = .inl 2 := by
  unfold ly
  rw [if_neg (by omega), if_neg (by omega), if_pos (by omega)]
abbrev GM : Type := va_G × ClassId × ClassId × ClassId × ClassId
def tysG (g : GM) : List (ClassId × FieldType) := [(g.2.1, .int), (g.2.2.1, .long), (g.2.2.2.1, .object RX0), (g.2.2.2.2, .object RX2)]
def vl (ad : Nat → Nat) (a : Nat → Int32) (b : Nat → Int64) (r : Nat → Option Nat) (k : Nat) : Nat → Value
  | 0 => .int (a k)
  | 1 => .long (b k)
  | 2 => va_rf ((r k).map ad)
  | n + 3 => .ref (ad n)
def vls (ad : Nat → Nat) (a : Nat → Int32) (b : Nat → Int64) (r : Nat → Option Nat) : Nat → List Nat → List Value
  | _, [] => []
  | k, t :: ts => vl ad a b r k t :: vls ad a b r (k + 1) ts
theorem vls_len {ad : Nat → Nat} {a : Nat → Int32} {b : Nat → Int64} {r : Nat → Option Nat} : ∀ (ts : List Nat) (k : Nat), (vls ad a b r k ts).length = ts.length
  | [], _ => rfl
  | t :: ts, k => by simp [vls, vls_len ts]
theorem vls_get {ad : Nat → Nat} {a : Nat → Int32} {b : Nat → Int64} {r : Nat → Option Nat} : ∀ (ts : List Nat) (k j t : Nat), ts[j]? = some t → (vls ad a b r k ts)[j]? = some (vl ad a b r (k + j) t)
  | [], _, j, t, h => by simp at h
  | t0 :: ts, k, 0, t, h => by
    simp at h
    subst h
    simp [vls]
  | t0 :: ts, k, j + 1, t, h => by
    simp at h
    have h1 := vls_get (ad := ad) (a := a) (b := b) (r := r) ts (k + 1) j t h
    simp only [vls, List.getElem?_cons_succ]
    rw [h1, show k + 1 + j = k + (j + 1) by omega]
/-- one slot written -/
theorem vls_set {ad : Nat → Nat} {a a' : Nat → Int32} {b b' : Nat → Int64} {r r' : Nat → Option Nat} {v : Value} (ts : List Nat) (k j t : Nat) (hj : ts[j]? = some t) (hv : vl ad a' b' r' (k + j) t = v) (ho : ∀ i u, i ≠ k + j → vl ad a b r i u = vl ad a' b' r' i u) : (vls ad a b r k ts).set j v = vls ad a' b' r' k ts := by
  apply List.ext_getElem?
  intro i
  by_cases hi : i = j
  · subst hi
    rw [List.getElem?_set_self (by rw [vls_len]; exact (List.getElem?_eq_some_iff.mp hj).1), vls_get ts k i t hj, hv]
  · rw [List.getElem?_set_ne (Ne.symm hi)]
    cases h : ts[i]? with
    | none =>
      have hl : ts.length ≤ i := List.getElem?_eq_none_iff.mp h
      rw [List.getElem?_eq_none (by rw [vls_len]; exact hl), List.getElem?_eq_none (by rw [vls_len]; exact hl)]
    | some u =>
      rw [vls_get ts k i u h, vls_get ts k i u h, ho (k + i) u (by omega)]
/-- the cell of a name -/
def ce (g : GM) (ad : Nat → Nat) (a : Nat → Nat → Int32) (b : Nat → Nat → Int64) (r : Nat → Nat → Option Nat) (n : Nat) : va_E := match ly n with
  | .inl ci => .inr (ci, vls ad (a n) (b n) (r n) 0 (kds ci))
  | .inr (0, len) => .inl (g.2.1, len, .inl (a n))
  | .inr (1, len) => .inl (g.2.2.1, len, .inr (.inl (b n)))
  | .inr (2, len) => .inl (g.2.2.2.1, len, .inr (.inr (.inr (.inr (fun k => (r n k).map ad)))))
  | .inr (_ + 3, len) => .inl (g.2.2.2.2, len, .inr (.inr (.inr (.inr (fun k => (r n k).map ad)))))
theorem ce_o {g : GM} {ad : Nat → Nat} {a : Nat → Nat → Int32} {b : Nat → Nat → Int64} {r : Nat → Nat → Option Nat} {n ci : Nat} (h : ly n = .inl ci) : ce g ad a b r n = .inr (ci, vls ad (a n) (b n) (r n) 0 (kds ci)) := by unfold ce; rw [h]
theorem ce_i {g : GM} {ad : Nat → Nat} {a : Nat → Nat → Int32} {b : Nat → Nat → Int64} {r : Nat → Nat → Option Nat} {n len : Nat} (h : ly n = .inr (0, len)) : ce g ad a b r n = .inl (g.2.1, len, .inl (a n)) := by unfold ce; rw [h]
theorem ce_l {g : GM} {ad : Nat → Nat} {a : Nat → Nat → Int32} {b : Nat → Nat → Int64} {r : Nat → Nat → Option Nat} {n len : Nat} (h : ly n = .inr (1, len)) : ce g ad a b r n = .inl (g.2.2.1, len, .inr (.inl (b n))) := by unfold ce; rw [h]
theorem ce_f {g : GM} {ad : Nat → Nat} {a : Nat → Nat → Int32} {b : Nat → Nat → Int64} {r : Nat → Nat → Option Nat} {n len : Nat} (h : ly n = .inr (2, len)) : ce g ad a b r n = .inl (g.2.2.2.1, len, .inr (.inr (.inr (.inr (fun k => (r n k).map ad))))) := by unfold ce; rw [h]
theorem ce_p {g : GM} {ad : Nat → Nat} {a : Nat → Nat → Int32} {b : Nat → Nat → Int64} {r : Nat → Nat → Option Nat} {n len : Nat} (h : ly n = .inr (3, len)) : ce g ad a b r n = .inl (g.2.2.2.2, len, .inr (.inr (.inr (.inr (fun k => (r n k).map ad))))) := by unfold ce; rw [h]
/-- a cell depends on its own name's slots alone -/
theorem ce_cong {g : GM} {ad : Nat → Nat} {a a' : Nat → Nat → Int32} {b b' : Nat → Nat → Int64} {r r' : Nat → Nat → Option Nat} {n : Nat} (h1 : a n = a' n) (h2 : b n = b' n) (h3 : r n = r' n) : ce g ad a b r n = ce g ad a' b' r' n := by
  unfold ce
  rw [h1, h2, h3]
def Wd (g : GM) (bs : Nat) (ad : Nat → Nat) (dm : Nat → Bool) (a : Nat → Nat → Int32) (b : Nat → Nat → Int64) (r : Nat → Nat → Option Nat) (H : Heap) : Prop :=
  bs ≤ H.size ∧ (∀ n, dm n = true → bs ≤ ad n ∧ va_at g.1 vwCl (ad n, ce g ad a b r n) H) ∧ ∀ n k, dm n = true → dm k = true → ad n = ad k → n = k
/-- one slot of one name -/
def u2 {α : Type} (f : Nat → Nat → α) (n k : Nat) (v : α) : Nat → Nat → α := fun i j => if i = n then (if j = k then v else f i j) else f i j
theorem u2_s {α : Type} {f : Nat → Nat → α} {n k : Nat} {v : α} : u2 f n k v n k = v := by simp [u2]
theorem u2_n {α : Type} {f : Nat → Nat → α} {n k i : Nat} {v : α} (h : i ≠ n) : u2 f n k v i = f i := by
  funext j
  simp [u2, h]
theorem u2_k {α : Type} {f : Nat → Nat → α} {n k j : Nat} {v : α} (h : j ≠ k) (i : Nat) : u2 f n k v i j = f i j := by
  simp [u2, h]
/-- the world behind a store into the cell of n -/
theorem Wd.st {g : GM} {bs : Nat} {ad : Nat → Nat} {dm : Nat → Bool} {a a' : Nat → Nat → Int32} {b b' : Nat → Nat → Int64} {r r' : Nat → Nat → Option Nat} {H H1 : Heap} {n : Nat} (h : Wd g bs ad dm a b r H) (hn : dm n = true) (hz : H1.size = H.size) (ho : ∀ q, q ≠ ad n → H1[q]? = H[q]?) (hc : va_at g.1 vwCl (ad n, ce g ad a' b' r' n) H1) (hs : ∀ i, i ≠ n → a i = a' i ∧ b i = b' i ∧ r i = r' i) : Wd g bs ad dm a' b' r' H1 := by
  refine ⟨by rw [hz]; exact h.1, fun i hi => ⟨(h.2.1 i hi).1, ?_⟩, h.2.2⟩
  by_cases e : i = n
  · subst e
    exact hc
  · obtain ⟨h1, h2, h3⟩ := hs i e
    rw [← ce_cong h1 h2 h3]
    exact (h.2.1 i hi).2.kept (ho _ (fun z => e (h.2.2 i n hi hn z)))
end
section
/-! THE JUDGEMENT: G E cl sl ad dm a b r pc lo st: the machine, at pc with locals lo and stack st, the world as ad dm a b r say, comes to a state with E's Q. E: the machine, the method's frame, its end. -/
abbrev EX : Type := Program × Launch × Env × Room × State × MethodId × Array Value × List Frame × Method × Code
abbrev EN : Type := GM × Nat × EX × Nat × (State → Prop)
abbrev eG (E : EN) : GM := E.1
abbrev eB (E : EN) : Nat := E.2.1
abbrev eL (E : EN) : Launch := E.2.2.1.2.1
abbrev eR (E : EN) : Room := E.2.2.1.2.2.2.1
abbrev eS (E : EN) : State := E.2.2.1.2.2.2.2.1
abbrev eM (E : EN) : MethodId := E.2.2.1.2.2.2.2.2.1
abbrev eA (E : EN) : Array Value := E.2.2.1.2.2.2.2.2.2.1
abbrev eW (E : EN) : List Frame := E.2.2.1.2.2.2.2.2.2.2.1
abbrev eH (E : EN) : Method := E.2.2.1.2.2.2.2.2.2.2.2.1
abbrev eC (E : EN) : Code := E.2.2.1.2.2.2.2.2.2.2.2.2
abbrev eN (E : EN) : Nat := E.2.2.2.1
abbrev eQ (E : EN) : State → Prop := E.2.2.2.2
abbrev WW (E : EN) (H : Heap) (locs : List Loc) (cl sl : Nat) (f : JFrame) : Prop := W E.2.2.1.1 (eL E) E.2.2.1.2.2.1 (eR E) (eS E) (eM E) (eA E) (eW E) (eH E) (eC E) H locs cl sl (eQ E) f
def las : Nat → List (Option Value) → List (Nat × Value)
  | _, [] => []
  | k, none :: t => las (k + 1) t
  | k, some v :: t => (k, v) :: las (k + 1) t
theorem las_mem : ∀ (lo : List (Option Value)) (k i : Nat) (v : Value), lo[i]? = some (some v) → (k + i, v) ∈ las k lo
  | [], _, i, v, h => by simp at h
  | none :: t, k, 0, v, h => by simp at h
  | some w :: t, k, 0, v, h => by
    simp at h
    subst h
    simp [las]
  | none :: t, k, i + 1, v, h => by
    have h1 := las_mem t (k + 1) i v (by simpa using h)
    rw [show k + 1 + i = k + (i + 1) by omega] at h1
    exact h1
  | some w :: t, k, i + 1, v, h => by
    have h1 := las_mem t (k + 1) i v (by simpa using h)
    rw [show k + 1 + i = k + (i + 1) by omega] at h1
    exact List.mem_cons_of_mem _ h1
theorem las_in : ∀ (lo : List (Option Value)) (k : Nat) (q : Nat × Value), q ∈ las k lo → ∃ i, q.1 = k + i ∧ lo[i]? = some (some q.2)
  | [], _, q, h => by simp [las] at h
  | none :: t, k, q, h => by
    obtain ⟨i, h1, h2⟩ := las_in t (k + 1) q h
    exact ⟨i + 1, by omega, by simpa using h2⟩
  | some w :: t, k, q, h => by
    rcases List.mem_cons.mp h with h | h
    · subst h
      exact ⟨0, rfl, rfl⟩
    · obtain ⟨i, h1, h2⟩ := las_in t (k + 1) q h
      exact ⟨i + 1, by omega, by simpa using h2⟩
def lh (ls : Array Slot) (nL : Nat) (lo : List (Option Value)) : Prop := lv_has ls nL (las 0 lo)
theorem lh_at {ls : Array Slot} {nL : Nat} {lo : List (Option Value)} {i : Nat} {v : Value} (h : lh ls nL lo) (hi : lo[i]? = some (some v)) : ls[i]? = some (.val v) := by
  have h1 := h.2.2 _ (las_mem lo 0 i v hi)
  rwa [Nat.zero_add] at h1
def G (E : EN) (cl sl : Nat) (ad : Nat → Nat) (dm : Nat → Bool) (a : Nat → Nat → Int32) (b : Nat → Nat → Int64) (r : Nat → Nat → Option Nat) (pc : Nat) (lo : List (Option Value)) (st : List Value) : Prop :=
  ∀ (H : Heap) (locs : List Loc) (ls : Array Slot), Wd (eG E) (eB E) ad dm a b r H → va_S (fun q => eB E ≤ q) (eS E).heap H locs → lh ls (eN E) lo → WW E H locs cl sl (F0 (eM E) pc ls st)
/-- the machine, the code, the tables, the room: lev calls deep -/
def CX (E : EN) (cc : ByteArray) (own : String) (lev : Nat) : Prop :=
  E.2.2.1.1.tables.exec = Jvm.exec ∧ (eC E).code = cc ∧ (eC E).maxLocals = eN E ∧ (eS E).vm.findClass own = some (eM E).cls ∧ (∀ w ∈ gd, w.before (eA E) (eS E) = true) ∧ va_K (eG E).1 vwCl (tysG (eG E)) (eS E) ∧ lev ≤ (eR E).frames ∧ 40 * lev ≤ (eR E).locals
section GR
variable {E : EN} {cc : ByteArray} {own : String} {lev cl sl : Nat} {ad : Nat → Nat} {dm : Nat → Bool} {a : Nat → Nat → Int32} {b : Nat → Nat → Int64} {r : Nat → Nat → Option Nat} {pc q : Nat} {lo : List (Option Value)} {rest : List Value}
theorem g_topi {x : Int32} (k : ∀ y : Int32, y = x → G E cl sl ad dm a b r pc lo (.int y :: rest)) : G E cl sl ad dm a b r pc lo (.int x :: rest) := k x rfl
theorem g_topl {x : Int64} (k : ∀ y : Int64, y = x → G E cl sl ad dm a b r pc lo (.long y :: rest)) : G E cl sl ad dm a b r pc lo (.long x :: rest) := k x rfl
theorem g_wide {cl' sl' : Nat} {st : List Value} (h1 : cl ≤ cl') (h2 : sl ≤ sl') (k : G E cl' sl' ad dm a b r pc lo st) : G E cl sl ad dm a b r pc lo st := fun H L ls hW hS hl => W.widen h1 h2 (k H L ls hW hS hl)
theorem g_eqi {x y : Int32} (e : x = y) (k : G E cl sl ad dm a b r pc lo (.int y :: rest)) : G E cl sl ad dm a b r pc lo (.int x :: rest) := e ▸ k
theorem g_lo {lo' : List (Option Value)} {st : List Value} (e : ∀ (i : Nat) (v : Value), lo'[i]? = some (some v) → lo[i]? = some (some v)) (k : G E cl sl ad dm a b r pc lo' st) : G E cl sl ad dm a b r pc lo st := fun H L ls hW hS hl => k H L ls hW hS ⟨hl.1, hl.2.1, fun z hz => by
  obtain ⟨i, h1, h2⟩ := las_in lo' 0 z hz
  have h3 := lh_at hl (e i z.2 h2)
  rw [show z.1 = i by omega]
  exact h3⟩

theorem g_iconst {n : Int} {v : Int32} (C : CX E cc own lev) (d : decode cc pc = .ok (.iconst n, 1)) (hq : pc + 1 = q) (hv : Int32.ofInt n = v) (k : G E cl sl ad dm a b r q lo (.int v :: rest)) : G E cl sl ad dm a b r pc lo (rest) := fun H L ls hW hS hl => lv_iconst C.1 C.2.1 d hv (by subst hq; exact k H L ls hW hS hl)
theorem g_bipush {n : Int} {v : Int32} (C : CX E cc own lev) (d : decode cc pc = .ok (.bipush n, 2)) (hq : pc + 2 = q) (hv : (Int8.ofInt n).toInt32 = v) (k : G E cl sl ad dm a b r q lo (.int v :: rest)) : G E cl sl ad dm a b r pc lo (rest) := fun H L ls hW hS hl => lv_bipush C.1 C.2.1 d hv (by subst hq; exact k H L ls hW hS hl)
theorem g_sipush {n : Int} {v : Int32} (C : CX E cc own lev) (d : decode cc pc = .ok (.sipush n, 3)) (hq : pc + 3 = q) (hv : (Int16.ofInt n).toInt32 = v) (k : G E cl sl ad dm a b r q lo (.int v :: rest)) : G E cl sl ad dm a b r pc lo (rest) := fun H L ls hW hS hl => lv_sipush C.1 C.2.1 d hv (by subst hq; exact k H L ls hW hS hl)
theorem g_lconst {n : Fin 2} {v : Int64} (C : CX E cc own lev) (d : decode cc pc = .ok (.lconst n, 1)) (hq : pc + 1 = q) (hv : Int64.ofNat (n : Nat) = v) (k : G E cl sl ad dm a b r q lo (.long v :: rest)) : G E cl sl ad dm a b r pc lo (rest) := fun H L ls hW hS hl => lv_lconst C.1 C.2.1 d hv (by subst hq; exact k H L ls hW hS hl)
theorem g_null (C : CX E cc own lev) (d : decode cc pc = .ok (.aconst_null, 1)) (hq : pc + 1 = q) (k : G E cl sl ad dm a b r q lo (.null :: rest)) : G E cl sl ad dm a b r pc lo (rest) := fun H L ls hW hS hl => lv_null C.1 C.2.1 d (by subst hq; exact k H L ls hW hS hl)
theorem g_ldc {i : Nat} {v : Int32} (C : CX E cc own lev) (d : decode cc pc = .ok (.ldc i, 2)) (hq : pc + 2 = q) (hg : Cond.constant own i v ∈ gd) (k : G E cl sl ad dm a b r q lo (.int v :: rest)) : G E cl sl ad dm a b r pc lo (rest) := fun H L ls hW hS hl => lv_ldc C.1 C.2.1 C.2.2.2.1 (C.2.2.2.2.1 _ hg) d (by subst hq; exact k H L ls hW hS hl)
theorem g_ldc2 {i : Nat} {v : Int64} (C : CX E cc own lev) (d : decode cc pc = .ok (.ldc2_w i, 3)) (hq : pc + 3 = q) (hg : Cond.constantLong own i v ∈ gd) (k : G E cl sl ad dm a b r q lo (.long v :: rest)) : G E cl sl ad dm a b r pc lo (rest) := fun H L ls hW hS hl => lv_ldc2 C.1 C.2.1 C.2.2.2.1 (C.2.2.2.2.1 _ hg) d (by subst hq; exact k H L ls hW hS hl)
theorem g_iadd {x y : Int32} (C : CX E cc own lev) (d : decode cc pc = .ok (.iadd, 1)) (hq : pc + 1 = q) (k : G E cl sl ad dm a b r q lo (.int (x + y) :: rest)) : G E cl sl ad dm a b r pc lo (.int y :: .int x :: rest) := fun H L ls hW hS hl => lv_iadd C.1 C.2.1 d (by subst hq; exact k H L ls hW hS hl)
theorem g_isub {x y : Int32} (C : CX E cc own lev) (d : decode cc pc = .ok (.isub, 1)) (hq : pc + 1 = q) (k : G E cl sl ad dm a b r q lo (.int (x - y) :: rest)) : G E cl sl ad dm a b r pc lo (.int y :: .int x :: rest) := fun H L ls hW hS hl => lv_isub C.1 C.2.1 d (by subst hq; exact k H L ls hW hS hl)
theorem g_imul {x y : Int32} (C : CX E cc own lev) (d : decode cc pc = .ok (.imul, 1)) (hq : pc + 1 = q) (k : G E cl sl ad dm a b r q lo (.int (x * y) :: rest)) : G E cl sl ad dm a b r pc lo (.int y :: .int x :: rest) := fun H L ls hW hS hl => lv_imul C.1 C.2.1 d (by subst hq; exact k H L ls hW hS hl)
theorem g_iand {x y : Int32} (C : CX E cc own lev) (d : decode cc pc = .ok (.iand, 1)) (hq : pc + 1 = q) (k : G E cl sl ad dm a b r q lo (.int (x &&& y) :: rest)) : G E cl sl ad dm a b r pc lo (.int y :: .int x :: rest) := fun H L ls hW hS hl => lv_iand C.1 C.2.1 d (by subst hq; exact k H L ls hW hS hl)
theorem g_ior {x y : Int32} (C : CX E cc own lev) (d : decode cc pc = .ok (.ior, 1)) (hq : pc + 1 = q) (k : G E cl sl ad dm a b r q lo (.int (x ||| y) :: rest)) : G E cl sl ad dm a b r pc lo (.int y :: .int x :: rest) := fun H L ls hW hS hl => lv_ior C.1 C.2.1 d (by subst hq; exact k H L ls hW hS hl)
theorem g_idiv {x y : Int32} (C : CX E cc own lev) (d : decode cc pc = .ok (.idiv, 1)) (hq : pc + 1 = q) (hn : ¬ y = 0) (k : G E cl sl ad dm a b r q lo (.int (x / y) :: rest)) : G E cl sl ad dm a b r pc lo (.int y :: .int x :: rest) := fun H L ls hW hS hl => lv_idiv C.1 C.2.1 d hn (by subst hq; exact k H L ls hW hS hl)
theorem g_irem {x y : Int32} (C : CX E cc own lev) (d : decode cc pc = .ok (.irem, 1)) (hq : pc + 1 = q) (hn : ¬ y = 0) (k : G E cl sl ad dm a b r q lo (.int (x - x / y * y) :: rest)) : G E cl sl ad dm a b r pc lo (.int y :: .int x :: rest) := fun H L ls hW hS hl => lv_irem C.1 C.2.1 d hn (by subst hq; exact k H L ls hW hS hl)
theorem g_ineg {x : Int32} (C : CX E cc own lev) (d : decode cc pc = .ok (.ineg, 1)) (hq : pc + 1 = q) (k : G E cl sl ad dm a b r q lo (.int (-x) :: rest)) : G E cl sl ad dm a b r pc lo (.int x :: rest) := fun H L ls hW hS hl => lv_ineg C.1 C.2.1 d (by subst hq; exact k H L ls hW hS hl)
theorem g_ladd {x y : Int64} (C : CX E cc own lev) (d : decode cc pc = .ok (.ladd, 1)) (hq : pc + 1 = q) (k : G E cl sl ad dm a b r q lo (.long (x + y) :: rest)) : G E cl sl ad dm a b r pc lo (.long y :: .long x :: rest) := fun H L ls hW hS hl => lv_ladd C.1 C.2.1 d (by subst hq; exact k H L ls hW hS hl)
theorem g_lsub {x y : Int64} (C : CX E cc own lev) (d : decode cc pc = .ok (.lsub, 1)) (hq : pc + 1 = q) (k : G E cl sl ad dm a b r q lo (.long (x - y) :: rest)) : G E cl sl ad dm a b r pc lo (.long y :: .long x :: rest) := fun H L ls hW hS hl => lv_lsub C.1 C.2.1 d (by subst hq; exact k H L ls hW hS hl)
theorem g_lmul {x y : Int64} (C : CX E cc own lev) (d : decode cc pc = .ok (.lmul, 1)) (hq : pc + 1 = q) (k : G E cl sl ad dm a b r q lo (.long (x * y) :: rest)) : G E cl sl ad dm a b r pc lo (.long y :: .long x :: rest) := fun H L ls hW hS hl => lv_lmul C.1 C.2.1 d (by subst hq; exact k H L ls hW hS hl)
theorem g_land {x y : Int64} (C : CX E cc own lev) (d : decode cc pc = .ok (.land, 1)) (hq : pc + 1 = q) (k : G E cl sl ad dm a b r q lo (.long (x &&& y) :: rest)) : G E cl sl ad dm a b r pc lo (.long y :: .long x :: rest) := fun H L ls hW hS hl => lv_land C.1 C.2.1 d (by subst hq; exact k H L ls hW hS hl)
theorem g_dup {v : Value} (C : CX E cc own lev) (d : decode cc pc = .ok (.dup, 1)) (hq : pc + 1 = q) (hv : v.category = 1) (k : G E cl sl ad dm a b r q lo (v :: v :: rest)) : G E cl sl ad dm a b r pc lo (v :: rest) := fun H L ls hW hS hl => lv_dup C.1 C.2.1 d hv (by subst hq; exact k H L ls hW hS hl)
theorem g_pop {v : Value} (C : CX E cc own lev) (d : decode cc pc = .ok (.pop, 1)) (hq : pc + 1 = q) (hv : v.category = 1) (k : G E cl sl ad dm a b r q lo (rest)) : G E cl sl ad dm a b r pc lo (v :: rest) := fun H L ls hW hS hl => lv_pop C.1 C.2.1 d hv (by subst hq; exact k H L ls hW hS hl)
theorem g_dup2 {v w : Value} (C : CX E cc own lev) (d : decode cc pc = .ok (.dup2, 1)) (hq : pc + 1 = q) (hv : v.category = 1) (hw : w.category = 1) (k : G E cl sl ad dm a b r q lo (v :: w :: v :: w :: rest)) : G E cl sl ad dm a b r pc lo (v :: w :: rest) := fun H L ls hW hS hl => lv_dup2_11 C.1 C.2.1 d hv hw (by subst hq; exact k H L ls hW hS hl)
theorem g_i2l {x : Int32} (C : CX E cc own lev) (d : decode cc pc = .ok (.i2l, 1)) (hq : pc + 1 = q) (k : G E cl sl ad dm a b r q lo (.long x.toInt64 :: rest)) : G E cl sl ad dm a b r pc lo (.int x :: rest) := fun H L ls hW hS hl => lv_i2l C.1 C.2.1 d rfl (by subst hq; exact k H L ls hW hS hl)
theorem g_l2i {x : Int64} (C : CX E cc own lev) (d : decode cc pc = .ok (.l2i, 1)) (hq : pc + 1 = q) (k : G E cl sl ad dm a b r q lo (.int x.toInt32 :: rest)) : G E cl sl ad dm a b r pc lo (.long x :: rest) := fun H L ls hW hS hl => lv_l2i C.1 C.2.1 d rfl (by subst hq; exact k H L ls hW hS hl)
theorem g_lcmp {x y : Int64} (C : CX E cc own lev) (d : decode cc pc = .ok (.lcmp, 1)) (hq : pc + 1 = q) (k : G E cl sl ad dm a b r q lo (.int (lg_cmp x y) :: rest)) : G E cl sl ad dm a b r pc lo (.long y :: .long x :: rest) := fun H L ls hW hS hl => W.lcmp C.1 C.2.1 d (by subst hq; exact k H L ls hW hS hl)
theorem g_ishl {x y : Int32} (C : CX E cc own lev) (d : decode cc pc = .ok (.ishl, 1)) (hq : pc + 1 = q) (k : G E cl sl ad dm a b r q lo (.int (x <<< (y &&& 31)) :: rest)) : G E cl sl ad dm a b r pc lo (.int y :: .int x :: rest) := fun H L ls hW hS hl => lv_ishl C.1 C.2.1 d (by subst hq; exact k H L ls hW hS hl)
theorem g_ishr {x y : Int32} (C : CX E cc own lev) (d : decode cc pc = .ok (.ishr, 1)) (hq : pc + 1 = q) (k : G E cl sl ad dm a b r q lo (.int (x >>> (y &&& 31)) :: rest)) : G E cl sl ad dm a b r pc lo (.int y :: .int x :: rest) := fun H L ls hW hS hl => lv_ishr C.1 C.2.1 d (by subst hq; exact k H L ls hW hS hl)
theorem g_lshl {x : Int64} {y : Int32} (C : CX E cc own lev) (d : decode cc pc = .ok (.lshl, 1)) (hq : pc + 1 = q) (k : G E cl sl ad dm a b r q lo (.long (x <<< (y.toInt64 &&& 63)) :: rest)) : G E cl sl ad dm a b r pc lo (.int y :: .long x :: rest) := fun H L ls hW hS hl => lv_lshl C.1 C.2.1 d rfl (by subst hq; exact k H L ls hW hS hl)
theorem g_lshr {x : Int64} {y : Int32} (C : CX E cc own lev) (d : decode cc pc = .ok (.lshr, 1)) (hq : pc + 1 = q) (k : G E cl sl ad dm a b r q lo (.long (x >>> (y.toInt64 &&& 63)) :: rest)) : G E cl sl ad dm a b r pc lo (.int y :: .long x :: rest) := fun H L ls hW hS hl => lv_lshr C.1 C.2.1 d rfl (by subst hq; exact k H L ls hW hS hl)
theorem g_iload_0 {x : Int32} {t : List (Option Value)} (C : CX E cc own lev) (d : decode cc pc = .ok (.iload_n 0, 1)) (hq : pc + 1 = q) (k : G E cl sl ad dm a b r q (some (.int x) :: t) (.int x :: rest)) : G E cl sl ad dm a b r pc (some (.int x) :: t) rest := fun H L ls hW hS hl => lv_iload_n C.1 C.2.1 d rfl (lh_at hl (i := 0) rfl) (by subst hq; exact k H L ls hW hS hl)
theorem g_lload_0 {x : Int64} {t : List (Option Value)} (C : CX E cc own lev) (d : decode cc pc = .ok (.lload_n 0, 1)) (hq : pc + 1 = q) (k : G E cl sl ad dm a b r q (some (.long x) :: t) (.long x :: rest)) : G E cl sl ad dm a b r pc (some (.long x) :: t) rest := fun H L ls hW hS hl => lv_lload_n C.1 C.2.1 d rfl (lh_at hl (i := 0) rfl) (by subst hq; exact k H L ls hW hS hl)
theorem g_aload_0 {x : Nat} {t : List (Option Value)} (C : CX E cc own lev) (d : decode cc pc = .ok (.aload_n 0, 1)) (hq : pc + 1 = q) (k : G E cl sl ad dm a b r q (some (.ref x) :: t) (.ref x :: rest)) : G E cl sl ad dm a b r pc (some (.ref x) :: t) rest := fun H L ls hW hS hl => lv_aload_n C.1 C.2.1 d rfl (lh_at hl (i := 0) rfl) (by subst hq; exact k H L ls hW hS hl)
theorem g_aload_0N {t : List (Option Value)} (C : CX E cc own lev) (d : decode cc pc = .ok (.aload_n 0, 1)) (hq : pc + 1 = q) (k : G E cl sl ad dm a b r q (some .null :: t) (.null :: rest)) : G E cl sl ad dm a b r pc (some .null :: t) rest := fun H L ls hW hS hl => lv_aload_nN C.1 C.2.1 d rfl (lh_at hl (i := 0) rfl) (by subst hq; exact k H L ls hW hS hl)
theorem g_iload_1 {e0 : Option Value} {x : Int32} {t : List (Option Value)} (C : CX E cc own lev) (d : decode cc pc = .ok (.iload_n 1, 1)) (hq : pc + 1 = q) (k : G E cl sl ad dm a b r q (e0 :: some (.int x) :: t) (.int x :: rest)) : G E cl sl ad dm a b r pc (e0 :: some (.int x) :: t) rest := fun H L ls hW hS hl => lv_iload_n C.1 C.2.1 d rfl (lh_at hl (i := 1) rfl) (by subst hq; exact k H L ls hW hS hl)
theorem g_lload_1 {e0 : Option Value} {x : Int64} {t : List (Option Value)} (C : CX E cc own lev) (d : decode cc pc = .ok (.lload_n 1, 1)) (hq : pc + 1 = q) (k : G E cl sl ad dm a b r q (e0 :: some (.long x) :: t) (.long x :: rest)) : G E cl sl ad dm a b r pc (e0 :: some (.long x) :: t) rest := fun H L ls hW hS hl => lv_lload_n C.1 C.2.1 d rfl (lh_at hl (i := 1) rfl) (by subst hq; exact k H L ls hW hS hl)
theorem g_aload_1 {e0 : Option Value} {x : Nat} {t : List (Option Value)} (C : CX E cc own lev) (d : decode cc pc = .ok (.aload_n 1, 1)) (hq : pc + 1 = q) (k : G E cl sl ad dm a b r q (e0 :: some (.ref x) :: t) (.ref x :: rest)) : G E cl sl ad dm a b r pc (e0 :: some (.ref x) :: t) rest := fun H L ls hW hS hl => lv_aload_n C.1 C.2.1 d rfl (lh_at hl (i := 1) rfl) (by subst hq; exact k H L ls hW hS hl)
theorem g_aload_1N {e0 : Option Value} {t : List (Option Value)} (C : CX E cc own lev) (d : decode cc pc = .ok (.aload_n 1, 1)) (hq : pc + 1 = q) (k : G E cl sl ad dm a b r q (e0 :: some .null :: t) (.null :: rest)) : G E cl sl ad dm a b r pc (e0 :: some .null :: t) rest := fun H L ls hW hS hl => lv_aload_nN C.1 C.2.1 d rfl (lh_at hl (i := 1) rfl) (by subst hq; exact k H L ls hW hS hl)
theorem g_iload_2 {e0 e1 : Option Value} {x : Int32} {t : List (Option Value)} (C : CX E cc own lev) (d : decode cc pc = .ok (.iload_n 2, 1)) (hq : pc + 1 = q) (k : G E cl sl ad dm a b r q (e0 :: e1 :: some (.int x) :: t) (.int x :: rest)) : G E cl sl ad dm a b r pc (e0 :: e1 :: some (.int x) :: t) rest := fun H L ls hW hS hl => lv_iload_n C.1 C.2.1 d rfl (lh_at hl (i := 2) rfl) (by subst hq; exact k H L ls hW hS hl)
theorem g_lload_2 {e0 e1 : Option Value} {x : Int64} {t : List (Option Value)} (C : CX E cc own lev) (d : decode cc pc = .ok (.lload_n 2, 1)) (hq : pc + 1 = q) (k : G E cl sl ad dm a b r q (e0 :: e1 :: some (.long x) :: t) (.long x :: rest)) : G E cl sl ad dm a b r pc (e0 :: e1 :: some (.long x) :: t) rest := fun H L ls hW hS hl => lv_lload_n C.1 C.2.1 d rfl (lh_at hl (i := 2) rfl) (by subst hq; exact k H L ls hW hS hl)
theorem g_aload_2 {e0 e1 : Option Value} {x : Nat} {t : List (Option Value)} (C : CX E cc own lev) (d : decode cc pc = .ok (.aload_n 2, 1)) (hq : pc + 1 = q) (k : G E cl sl ad dm a b r q (e0 :: e1 :: some (.ref x) :: t) (.ref x :: rest)) : G E cl sl ad dm a b r pc (e0 :: e1 :: some (.ref x) :: t) rest := fun H L ls hW hS hl => lv_aload_n C.1 C.2.1 d rfl (lh_at hl (i := 2) rfl) (by subst hq; exact k H L ls hW hS hl)
theorem g_aload_2N {e0 e1 : Option Value} {t : List (Option Value)} (C : CX E cc own lev) (d : decode cc pc = .ok (.aload_n 2, 1)) (hq : pc + 1 = q) (k : G E cl sl ad dm a b r q (e0 :: e1 :: some .null :: t) (.null :: rest)) : G E cl sl ad dm a b r pc (e0 :: e1 :: some .null :: t) rest := fun H L ls hW hS hl => lv_aload_nN C.1 C.2.1 d rfl (lh_at hl (i := 2) rfl) (by subst hq; exact k H L ls hW hS hl)
theorem g_iload_3 {e0 e1 e2 : Option Value} {x : Int32} {t : List (Option Value)} (C : CX E cc own lev) (d : decode cc pc = .ok (.iload_n 3, 1)) (hq : pc + 1 = q) (k : G E cl sl ad dm a b r q (e0 :: e1 :: e2 :: some (.int x) :: t) (.int x :: rest)) : G E cl sl ad dm a b r pc (e0 :: e1 :: e2 :: some (.int x) :: t) rest := fun H L ls hW hS hl => lv_iload_n C.1 C.2.1 d rfl (lh_at hl (i := 3) rfl) (by subst hq; exact k H L ls hW hS hl)
theorem g_lload_3 {e0 e1 e2 : Option Value} {x : Int64} {t : List (Option Value)} (C : CX E cc own lev) (d : decode cc pc = .ok (.lload_n 3, 1)) (hq : pc + 1 = q) (k : G E cl sl ad dm a b r q (e0 :: e1 :: e2 :: some (.long x) :: t) (.long x :: rest)) : G E cl sl ad dm a b r pc (e0 :: e1 :: e2 :: some (.long x) :: t) rest := fun H L ls hW hS hl => lv_lload_n C.1 C.2.1 d rfl (lh_at hl (i := 3) rfl) (by subst hq; exact k H L ls hW hS hl)
theorem g_aload_3 {e0 e1 e2 : Option Value} {x : Nat} {t : List (Option Value)} (C : CX E cc own lev) (d : decode cc pc = .ok (.aload_n 3, 1)) (hq : pc + 1 = q) (k : G E cl sl ad dm a b r q (e0 :: e1 :: e2 :: some (.ref x) :: t) (.ref x :: rest)) : G E cl sl ad dm a b r pc (e0 :: e1 :: e2 :: some (.ref x) :: t) rest := fun H L ls hW hS hl => lv_aload_n C.1 C.2.1 d rfl (lh_at hl (i := 3) rfl) (by subst hq; exact k H L ls hW hS hl)
theorem g_aload_3N {e0 e1 e2 : Option Value} {t : List (Option Value)} (C : CX E cc own lev) (d : decode cc pc = .ok (.aload_n 3, 1)) (hq : pc + 1 = q) (k : G E cl sl ad dm a b r q (e0 :: e1 :: e2 :: some .null :: t) (.null :: rest)) : G E cl sl ad dm a b r pc (e0 :: e1 :: e2 :: some .null :: t) rest := fun H L ls hW hS hl => lv_aload_nN C.1 C.2.1 d rfl (lh_at hl (i := 3) rfl) (by subst hq; exact k H L ls hW hS hl)
theorem g_iload_4 {e0 e1 e2 e3 : Option Value} {x : Int32} {t : List (Option Value)} (C : CX E cc own lev) (d : decode cc pc = .ok (.iload 4, 2)) (hq : pc + 2 = q) (k : G E cl sl ad dm a b r q (e0 :: e1 :: e2 :: e3 :: some (.int x) :: t) (.int x :: rest)) : G E cl sl ad dm a b r pc (e0 :: e1 :: e2 :: e3 :: some (.int x) :: t) rest := fun H L ls hW hS hl => lv_iload C.1 C.2.1 d (lh_at hl (i := 4) rfl) (by subst hq; exact k H L ls hW hS hl)
theorem g_lload_4 {e0 e1 e2 e3 : Option Value} {x : Int64} {t : List (Option Value)} (C : CX E cc own lev) (d : decode cc pc = .ok (.lload 4, 2)) (hq : pc + 2 = q) (k : G E cl sl ad dm a b r q (e0 :: e1 :: e2 :: e3 :: some (.long x) :: t) (.long x :: rest)) : G E cl sl ad dm a b r pc (e0 :: e1 :: e2 :: e3 :: some (.long x) :: t) rest := fun H L ls hW hS hl => lv_lload C.1 C.2.1 d (lh_at hl (i := 4) rfl) (by subst hq; exact k H L ls hW hS hl)
theorem g_aload_4 {e0 e1 e2 e3 : Option Value} {x : Nat} {t : List (Option Value)} (C : CX E cc own lev) (d : decode cc pc = .ok (.aload 4, 2)) (hq : pc + 2 = q) (k : G E cl sl ad dm a b r q (e0 :: e1 :: e2 :: e3 :: some (.ref x) :: t) (.ref x :: rest)) : G E cl sl ad dm a b r pc (e0 :: e1 :: e2 :: e3 :: some (.ref x) :: t) rest := fun H L ls hW hS hl => lv_aload C.1 C.2.1 d (lh_at hl (i := 4) rfl) (by subst hq; exact k H L ls hW hS hl)
theorem g_aload_4N {e0 e1 e2 e3 : Option Value} {t : List (Option Value)} (C : CX E cc own lev) (d : decode cc pc = .ok (.aload 4, 2)) (hq : pc + 2 = q) (k : G E cl sl ad dm a b r q (e0 :: e1 :: e2 :: e3 :: some .null :: t) (.null :: rest)) : G E cl sl ad dm a b r pc (e0 :: e1 :: e2 :: e3 :: some .null :: t) rest := fun H L ls hW hS hl => lv_aloadN C.1 C.2.1 d (lh_at hl (i := 4) rfl) (by subst hq; exact k H L ls hW hS hl)
theorem g_iload_5 {e0 e1 e2 e3 e4 : Option Value} {x : Int32} {t : List (Option Value)} (C : CX E cc own lev) (d : decode cc pc = .ok (.iload 5, 2)) (hq : pc + 2 = q) (k : G E cl sl ad dm a b r q (e0 :: e1 :: e2 :: e3 :: e4 :: some (.int x) :: t) (.int x :: rest)) : G E cl sl ad dm a b r pc (e0 :: e1 :: e2 :: e3 :: e4 :: some (.int x) :: t) rest := fun H L ls hW hS hl => lv_iload C.1 C.2.1 d (lh_at hl (i := 5) rfl) (by subst hq; exact k H L ls hW hS hl)
theorem g_lload_5 {e0 e1 e2 e3 e4 : Option Value} {x : Int64} {t : List (Option Value)} (C : CX E cc own lev) (d : decode cc pc = .ok (.lload 5, 2)) (hq : pc + 2 = q) (k : G E cl sl ad dm a b r q (e0 :: e1 :: e2 :: e3 :: e4 :: some (.long x) :: t) (.long x :: rest)) : G E cl sl ad dm a b r pc (e0 :: e1 :: e2 :: e3 :: e4 :: some (.long x) :: t) rest := fun H L ls hW hS hl => lv_lload C.1 C.2.1 d (lh_at hl (i := 5) rfl) (by subst hq; exact k H L ls hW hS hl)
theorem g_aload_5 {e0 e1 e2 e3 e4 : Option Value} {x : Nat} {t : List (Option Value)} (C : CX E cc own lev) (d : decode cc pc = .ok (.aload 5, 2)) (hq : pc + 2 = q) (k : G E cl sl ad dm a b r q (e0 :: e1 :: e2 :: e3 :: e4 :: some (.ref x) :: t) (.ref x :: rest)) : G E cl sl ad dm a b r pc (e0 :: e1 :: e2 :: e3 :: e4 :: some (.ref x) :: t) rest := fun H L ls hW hS hl => lv_aload C.1 C.2.1 d (lh_at hl (i := 5) rfl) (by subst hq; exact k H L ls hW hS hl)
theorem g_aload_5N {e0 e1 e2 e3 e4 : Option Value} {t : List (Option Value)} (C : CX E cc own lev) (d : decode cc pc = .ok (.aload 5, 2)) (hq : pc + 2 = q) (k : G E cl sl ad dm a b r q (e0 :: e1 :: e2 :: e3 :: e4 :: some .null :: t) (.null :: rest)) : G E cl sl ad dm a b r pc (e0 :: e1 :: e2 :: e3 :: e4 :: some .null :: t) rest := fun H L ls hW hS hl => lv_aloadN C.1 C.2.1 d (lh_at hl (i := 5) rfl) (by subst hq; exact k H L ls hW hS hl)
theorem g_iload_6 {e0 e1 e2 e3 e4 e5 : Option Value} {x : Int32} {t : List (Option Value)} (C : CX E cc own lev) (d : decode cc pc = .ok (.iload 6, 2)) (hq : pc + 2 = q) (k : G E cl sl ad dm a b r q (e0 :: e1 :: e2 :: e3 :: e4 :: e5 :: some (.int x) :: t) (.int x :: rest)) : G E cl sl ad dm a b r pc (e0 :: e1 :: e2 :: e3 :: e4 :: e5 :: some (.int x) :: t) rest := fun H L ls hW hS hl => lv_iload C.1 C.2.1 d (lh_at hl (i := 6) rfl) (by subst hq; exact k H L ls hW hS hl)
theorem g_lload_6 {e0 e1 e2 e3 e4 e5 : Option Value} {x : Int64} {t : List (Option Value)} (C : CX E cc own lev) (d : decode cc pc = .ok (.lload 6, 2)) (hq : pc + 2 = q) (k : G E cl sl ad dm a b r q (e0 :: e1 :: e2 :: e3 :: e4 :: e5 :: some (.long x) :: t) (.long x :: rest)) : G E cl sl ad dm a b r pc (e0 :: e1 :: e2 :: e3 :: e4 :: e5 :: some (.long x) :: t) rest := fun H L ls hW hS hl => lv_lload C.1 C.2.1 d (lh_at hl (i := 6) rfl) (by subst hq; exact k H L ls hW hS hl)
theorem g_aload_6 {e0 e1 e2 e3 e4 e5 : Option Value} {x : Nat} {t : List (Option Value)} (C : CX E cc own lev) (d : decode cc pc = .ok (.aload 6, 2)) (hq : pc + 2 = q) (k : G E cl sl ad dm a b r q (e0 :: e1 :: e2 :: e3 :: e4 :: e5 :: some (.ref x) :: t) (.ref x :: rest)) : G E cl sl ad dm a b r pc (e0 :: e1 :: e2 :: e3 :: e4 :: e5 :: some (.ref x) :: t) rest := fun H L ls hW hS hl => lv_aload C.1 C.2.1 d (lh_at hl (i := 6) rfl) (by subst hq; exact k H L ls hW hS hl)
theorem g_aload_6N {e0 e1 e2 e3 e4 e5 : Option Value} {t : List (Option Value)} (C : CX E cc own lev) (d : decode cc pc = .ok (.aload 6, 2)) (hq : pc + 2 = q) (k : G E cl sl ad dm a b r q (e0 :: e1 :: e2 :: e3 :: e4 :: e5 :: some .null :: t) (.null :: rest)) : G E cl sl ad dm a b r pc (e0 :: e1 :: e2 :: e3 :: e4 :: e5 :: some .null :: t) rest := fun H L ls hW hS hl => lv_aloadN C.1 C.2.1 d (lh_at hl (i := 6) rfl) (by subst hq; exact k H L ls hW hS hl)
theorem g_iload_7 {e0 e1 e2 e3 e4 e5 e6 : Option Value} {x : Int32} {t : List (Option Value)} (C : CX E cc own lev) (d : decode cc pc = .ok (.iload 7, 2)) (hq : pc + 2 = q) (k : G E cl sl ad dm a b r q (e0 :: e1 :: e2 :: e3 :: e4 :: e5 :: e6 :: some (.int x) :: t) (.int x :: rest)) : G E cl sl ad dm a b r pc (e0 :: e1 :: e2 :: e3 :: e4 :: e5 :: e6 :: some (.int x) :: t) rest := fun H L ls hW hS hl => lv_iload C.1 C.2.1 d (lh_at hl (i := 7) rfl) (by subst hq; exact k H L ls hW hS hl)
theorem g_lload_7 {e0 e1 e2 e3 e4 e5 e6 : Option Value} {x : Int64} {t : List (Option Value)} (C : CX E cc own lev) (d : decode cc pc = .ok (.lload 7, 2)) (hq : pc + 2 = q) (k : G E cl sl ad dm a b r q (e0 :: e1 :: e2 :: e3 :: e4 :: e5 :: e6 :: some (.long x) :: t) (.long x :: rest)) : G E cl sl ad dm a b r pc (e0 :: e1 :: e2 :: e3 :: e4 :: e5 :: e6 :: some (.long x) :: t) rest := fun H L ls hW hS hl => lv_lload C.1 C.2.1 d (lh_at hl (i := 7) rfl) (by subst hq; exact k H L ls hW hS hl)
theorem g_aload_7 {e0 e1 e2 e3 e4 e5 e6 : Option Value} {x : Nat} {t : List (Option Value)} (C : CX E cc own lev) (d : decode cc pc = .ok (.aload 7, 2)) (hq : pc + 2 = q) (k : G E cl sl ad dm a b r q (e0 :: e1 :: e2 :: e3 :: e4 :: e5 :: e6 :: some (.ref x) :: t) (.ref x :: rest)) : G E cl sl ad dm a b r pc (e0 :: e1 :: e2 :: e3 :: e4 :: e5 :: e6 :: some (.ref x) :: t) rest := fun H L ls hW hS hl => lv_aload C.1 C.2.1 d (lh_at hl (i := 7) rfl) (by subst hq; exact k H L ls hW hS hl)
theorem g_aload_7N {e0 e1 e2 e3 e4 e5 e6 : Option Value} {t : List (Option Value)} (C : CX E cc own lev) (d : decode cc pc = .ok (.aload 7, 2)) (hq : pc + 2 = q) (k : G E cl sl ad dm a b r q (e0 :: e1 :: e2 :: e3 :: e4 :: e5 :: e6 :: some .null :: t) (.null :: rest)) : G E cl sl ad dm a b r pc (e0 :: e1 :: e2 :: e3 :: e4 :: e5 :: e6 :: some .null :: t) rest := fun H L ls hW hS hl => lv_aloadN C.1 C.2.1 d (lh_at hl (i := 7) rfl) (by subst hq; exact k H L ls hW hS hl)
theorem g_iload_8 {e0 e1 e2 e3 e4 e5 e6 e7 : Option Value} {x : Int32} {t : List (Option Value)} (C : CX E cc own lev) (d : decode cc pc = .ok (.iload 8, 2)) (hq : pc + 2 = q) (k : G E cl sl ad dm a b r q (e0 :: e1 :: e2 :: e3 :: e4 :: e5 :: e6 :: e7 :: some (.int x) :: t) (.int x :: rest)) : G E cl sl ad dm a b r pc (e0 :: e1 :: e2 :: e3 :: e4 :: e5 :: e6 :: e7 :: some (.int x) :: t) rest := fun H L ls hW hS hl => lv_iload C.1 C.2.1 d (lh_at hl (i := 8) rfl) (by subst hq; exact k H L ls hW hS hl)
theorem g_lload_8 {e0 e1 e2 e3 e4 e5 e6 e7 : Option Value} {x : Int64} {t : List (Option Value)} (C : CX E cc own lev) (d : decode cc pc = .ok (.lload 8, 2)) (hq : pc + 2 = q) (k : G E cl sl ad dm a b r q (e0 :: e1 :: e2 :: e3 :: e4 :: e5 :: e6 :: e7 :: some (.long x) :: t) (.long x :: rest)) : G E cl sl ad dm a b r pc (e0 :: e1 :: e2 :: e3 :: e4 :: e5 :: e6 :: e7 :: some (.long x) :: t) rest := fun H L ls hW hS hl => lv_lload C.1 C.2.1 d (lh_at hl (i := 8) rfl) (by subst hq; exact k H L ls hW hS hl)
theorem g_aload_8 {e0 e1 e2 e3 e4 e5 e6 e7 : Option Value} {x : Nat} {t : List (Option Value)} (C : CX E cc own lev) (d : decode cc pc = .ok (.aload 8, 2)) (hq : pc + 2 = q) (k : G E cl sl ad dm a b r q (e0 :: e1 :: e2 :: e3 :: e4 :: e5 :: e6 :: e7 :: some (.ref x) :: t) (.ref x :: rest)) : G E cl sl ad dm a b r pc (e0 :: e1 :: e2 :: e3 :: e4 :: e5 :: e6 :: e7 :: some (.ref x) :: t) rest := fun H L ls hW hS hl => lv_aload C.1 C.2.1 d (lh_at hl (i := 8) rfl) (by subst hq; exact k H L ls hW hS hl)
theorem g_aload_8N {e0 e1 e2 e3 e4 e5 e6 e7 : Option Value} {t : List (Option Value)} (C : CX E cc own lev) (d : decode cc pc = .ok (.aload 8, 2)) (hq : pc + 2 = q) (k : G E cl sl ad dm a b r q (e0 :: e1 :: e2 :: e3 :: e4 :: e5 :: e6 :: e7 :: some .null :: t) (.null :: rest)) : G E cl sl ad dm a b r pc (e0 :: e1 :: e2 :: e3 :: e4 :: e5 :: e6 :: e7 :: some .null :: t) rest := fun H L ls hW hS hl => lv_aloadN C.1 C.2.1 d (lh_at hl (i := 8) rfl) (by subst hq; exact k H L ls hW hS hl)
theorem g_iload_9 {e0 e1 e2 e3 e4 e5 e6 e7 e8 : Option Value} {x : Int32} {t : List (Option Value)} (C : CX E cc own lev) (d : decode cc pc = .ok (.iload 9, 2)) (hq : pc + 2 = q) (k : G E cl sl ad dm a b r q (e0 :: e1 :: e2 :: e3 :: e4 :: e5 :: e6 :: e7 :: e8 :: some (.int x) :: t) (.int x :: rest)) : G E cl sl ad dm a b r pc (e0 :: e1 :: e2 :: e3 :: e4 :: e5 :: e6 :: e7 :: e8 :: some (.int x) :: t) rest := fun H L ls hW hS hl => lv_iload C.1 C.2.1 d (lh_at hl (i := 9) rfl) (by subst hq; exact k H L ls hW hS hl)
theorem g_lload_9 {e0 e1 e2 e3 e4 e5 e6 e7 e8 : Option Value} {x : Int64} {t : List (Option Value)} (C : CX E cc own lev) (d : decode cc pc = .ok (.lload 9, 2)) (hq : pc + 2 = q) (k : G E cl sl ad dm a b r q (e0 :: e1 :: e2 :: e3 :: e4 :: e5 :: e6 :: e7 :: e8 :: some (.long x) :: t) (.long x :: rest)) : G E cl sl ad dm a b r pc (e0 :: e1 :: e2 :: e3 :: e4 :: e5 :: e6 :: e7 :: e8 :: some (.long x) :: t) rest := fun H L ls hW hS hl => lv_lload C.1 C.2.1 d (lh_at hl (i := 9) rfl) (by subst hq; exact k H L ls hW hS hl)
theorem g_aload_9 {e0 e1 e2 e3 e4 e5 e6 e7 e8 : Option Value} {x : Nat} {t : List (Option Value)} (C : CX E cc own lev) (d : decode cc pc = .ok (.aload 9, 2)) (hq : pc + 2 = q) (k : G E cl sl ad dm a b r q (e0 :: e1 :: e2 :: e3 :: e4 :: e5 :: e6 :: e7 :: e8 :: some (.ref x) :: t) (.ref x :: rest)) : G E cl sl ad dm a b r pc (e0 :: e1 :: e2 :: e3 :: e4 :: e5 :: e6 :: e7 :: e8 :: some (.ref x) :: t) rest := fun H L ls hW hS hl => lv_aload C.1 C.2.1 d (lh_at hl (i := 9) rfl) (by subst hq; exact k H L ls hW hS hl)
theorem g_aload_9N {e0 e1 e2 e3 e4 e5 e6 e7 e8 : Option Value} {t : List (Option Value)} (C : CX E cc own lev) (d : decode cc pc = .ok (.aload 9, 2)) (hq : pc + 2 = q) (k : G E cl sl ad dm a b r q (e0 :: e1 :: e2 :: e3 :: e4 :: e5 :: e6 :: e7 :: e8 :: some .null :: t) (.null :: rest)) : G E cl sl ad dm a b r pc (e0 :: e1 :: e2 :: e3 :: e4 :: e5 :: e6 :: e7 :: e8 :: some .null :: t) rest := fun H L ls hW hS hl => lv_aloadN C.1 C.2.1 d (lh_at hl (i := 9) rfl) (by subst hq; exact k H L ls hW hS hl)
theorem g_iload_10 {e0 e1 e2 e3 e4 e5 e6 e7 e8 e9 : Option Value} {x : Int32} {t : List (Option Value)} (C : CX E cc own lev) (d : decode cc pc = .ok (.iload 10, 2)) (hq : pc + 2 = q) (k : G E cl sl ad dm a b r q (e0 :: e1 :: e2 :: e3 :: e4 :: e5 :: e6 :: e7 :: e8 :: e9 :: some (.int x) :: t) (.int x :: rest)) : G E cl sl ad dm a b r pc (e0 :: e1 :: e2 :: e3 :: e4 :: e5 :: e6 :: e7 :: e8 :: e9 :: some (.int x) :: t) rest := fun H L ls hW hS hl => lv_iload C.1 C.2.1 d (lh_at hl (i := 10) rfl) (by subst hq; exact k H L ls hW hS hl)
theorem g_lload_10 {e0 e1 e2 e3 e4 e5 e6 e7 e8 e9 : Option Value} {x : Int64} {t : List (Option Value)} (C : CX E cc own lev) (d : decode cc pc = .ok (.lload 10, 2)) (hq : pc + 2 = q) (k : G E cl sl ad dm a b r q (e0 :: e1 :: e2 :: e3 :: e4 :: e5 :: e6 :: e7 :: e8 :: e9 :: some (.long x) :: t) (.long x :: rest)) : G E cl sl ad dm a b r pc (e0 :: e1 :: e2 :: e3 :: e4 :: e5 :: e6 :: e7 :: e8 :: e9 :: some (.long x) :: t) rest := fun H L ls hW hS hl => lv_lload C.1 C.2.1 d (lh_at hl (i := 10) rfl) (by subst hq; exact k H L ls hW hS hl)
theorem g_aload_10 {e0 e1 e2 e3 e4 e5 e6 e7 e8 e9 : Option Value} {x : Nat} {t : List (Option Value)} (C : CX E cc own lev) (d : decode cc pc = .ok (.aload 10, 2)) (hq : pc + 2 = q) (k : G E cl sl ad dm a b r q (e0 :: e1 :: e2 :: e3 :: e4 :: e5 :: e6 :: e7 :: e8 :: e9 :: some (.ref x) :: t) (.ref x :: rest)) : G E cl sl ad dm a b r pc (e0 :: e1 :: e2 :: e3 :: e4 :: e5 :: e6 :: e7 :: e8 :: e9 :: some (.ref x) :: t) rest := fun H L ls hW hS hl => lv_aload C.1 C.2.1 d (lh_at hl (i := 10) rfl) (by subst hq; exact k H L ls hW hS hl)
theorem g_aload_10N {e0 e1 e2 e3 e4 e5 e6 e7 e8 e9 : Option Value} {t : List (Option Value)} (C : CX E cc own lev) (d : decode cc pc = .ok (.aload 10, 2)) (hq : pc + 2 = q) (k : G E cl sl ad dm a b r q (e0 :: e1 :: e2 :: e3 :: e4 :: e5 :: e6 :: e7 :: e8 :: e9 :: some .null :: t) (.null :: rest)) : G E cl sl ad dm a b r pc (e0 :: e1 :: e2 :: e3 :: e4 :: e5 :: e6 :: e7 :: e8 :: e9 :: some .null :: t) rest := fun H L ls hW hS hl => lv_aloadN C.1 C.2.1 d (lh_at hl (i := 10) rfl) (by subst hq; exact k H L ls hW hS hl)
theorem g_iload_11 {e0 e1 e2 e3 e4 e5 e6 e7 e8 e9 e10 : Option Value} {x : Int32} {t : List (Option Value)} (C : CX E cc own lev) (d : decode cc pc = .ok (.iload 11, 2)) (hq : pc + 2 = q) (k : G E cl sl ad dm a b r q (e0 :: e1 :: e2 :: e3 :: e4 :: e5 :: e6 :: e7 :: e8 :: e9 :: e10 :: some (.int x) :: t) (.int x :: rest)) : G E cl sl ad dm a b r pc (e0 :: e1 :: e2 :: e3 :: e4 :: e5 :: e6 :: e7 :: e8 :: e9 :: e10 :: some (.int x) :: t) rest := fun H L ls hW hS hl => lv_iload C.1 C.2.1 d (lh_at hl (i := 11) rfl) (by subst hq; exact k H L ls hW hS hl)
theorem g_lload_11 {e0 e1 e2 e3 e4 e5 e6 e7 e8 e9 e10 : Option Value} {x : Int64} {t : List (Option Value)} (C : CX E cc own lev) (d : decode cc pc = .ok (.lload 11, 2)) (hq : pc + 2 = q) (k : G E cl sl ad dm a b r q (e0 :: e1 :: e2 :: e3 :: e4 :: e5 :: e6 :: e7 :: e8 :: e9 :: e10 :: some (.long x) :: t) (.long x :: rest)) : G E cl sl ad dm a b r pc (e0 :: e1 :: e2 :: e3 :: e4 :: e5 :: e6 :: e7 :: e8 :: e9 :: e10 :: some (.long x) :: t) rest := fun H L ls hW hS hl => lv_lload C.1 C.2.1 d (lh_at hl (i := 11) rfl) (by subst hq; exact k H L ls hW hS hl)
theorem g_aload_11 {e0 e1 e2 e3 e4 e5 e6 e7 e8 e9 e10 : Option Value} {x : Nat} {t : List (Option Value)} (C : CX E cc own lev) (d : decode cc pc = .ok (.aload 11, 2)) (hq : pc + 2 = q) (k : G E cl sl ad dm a b r q (e0 :: e1 :: e2 :: e3 :: e4 :: e5 :: e6 :: e7 :: e8 :: e9 :: e10 :: some (.ref x) :: t) (.ref x :: rest)) : G E cl sl ad dm a b r pc (e0 :: e1 :: e2 :: e3 :: e4 :: e5 :: e6 :: e7 :: e8 :: e9 :: e10 :: some (.ref x) :: t) rest := fun H L ls hW hS hl => lv_aload C.1 C.2.1 d (lh_at hl (i := 11) rfl) (by subst hq; exact k H L ls hW hS hl)
theorem g_aload_11N {e0 e1 e2 e3 e4 e5 e6 e7 e8 e9 e10 : Option Value} {t : List (Option Value)} (C : CX E cc own lev) (d : decode cc pc = .ok (.aload 11, 2)) (hq : pc + 2 = q) (k : G E cl sl ad dm a b r q (e0 :: e1 :: e2 :: e3 :: e4 :: e5 :: e6 :: e7 :: e8 :: e9 :: e10 :: some .null :: t) (.null :: rest)) : G E cl sl ad dm a b r pc (e0 :: e1 :: e2 :: e3 :: e4 :: e5 :: e6 :: e7 :: e8 :: e9 :: e10 :: some .null :: t) rest := fun H L ls hW hS hl => lv_aloadN C.1 C.2.1 d (lh_at hl (i := 11) rfl) (by subst hq; exact k H L ls hW hS hl)
theorem g_iload_12 {e0 e1 e2 e3 e4 e5 e6 e7 e8 e9 e10 e11 : Option Value} {x : Int32} {t : List (Option Value)} (C : CX E cc own lev) (d : decode cc pc = .ok (.iload 12, 2)) (hq : pc + 2 = q) (k : G E cl sl ad dm a b r q (e0 :: e1 :: e2 :: e3 :: e4 :: e5 :: e6 :: e7 :: e8 :: e9 :: e10 :: e11 :: some (.int x) :: t) (.int x :: rest)) : G E cl sl ad dm a b r pc (e0 :: e1 :: e2 :: e3 :: e4 :: e5 :: e6 :: e7 :: e8 :: e9 :: e10 :: e11 :: some (.int x) :: t) rest := fun H L ls hW hS hl => lv_iload C.1 C.2.1 d (lh_at hl (i := 12) rfl) (by subst hq; exact k H L ls hW hS hl)
theorem g_lload_12 {e0 e1 e2 e3 e4 e5 e6 e7 e8 e9 e10 e11 : Option Value} {x : Int64} {t : List (Option Value)} (C : CX E cc own lev) (d : decode cc pc = .ok (.lload 12, 2)) (hq : pc + 2 = q) (k : G E cl sl ad dm a b r q (e0 :: e1 :: e2 :: e3 :: e4 :: e5 :: e6 :: e7 :: e8 :: e9 :: e10 :: e11 :: some (.long x) :: t) (.long x :: rest)) : G E cl sl ad dm a b r pc (e0 :: e1 :: e2 :: e3 :: e4 :: e5 :: e6 :: e7 :: e8 :: e9 :: e10 :: e11 :: some (.long x) :: t) rest := fun H L ls hW hS hl => lv_lload C.1 C.2.1 d (lh_at hl (i := 12) rfl) (by subst hq; exact k H L ls hW hS hl)
theorem g_aload_12 {e0 e1 e2 e3 e4 e5 e6 e7 e8 e9 e10 e11 : Option Value} {x : Nat} {t : List (Option Value)} (C : CX E cc own lev) (d : decode cc pc = .ok (.aload 12, 2)) (hq : pc + 2 = q) (k : G E cl sl ad dm a b r q (e0 :: e1 :: e2 :: e3 :: e4 :: e5 :: e6 :: e7 :: e8 :: e9 :: e10 :: e11 :: some (.ref x) :: t) (.ref x :: rest)) : G E cl sl ad dm a b r pc (e0 :: e1 :: e2 :: e3 :: e4 :: e5 :: e6 :: e7 :: e8 :: e9 :: e10 :: e11 :: some (.ref x) :: t) rest := fun H L ls hW hS hl => lv_aload C.1 C.2.1 d (lh_at hl (i := 12) rfl) (by subst hq; exact k H L ls hW hS hl)
theorem g_aload_12N {e0 e1 e2 e3 e4 e5 e6 e7 e8 e9 e10 e11 : Option Value} {t : List (Option Value)} (C : CX E cc own lev) (d : decode cc pc = .ok (.aload 12, 2)) (hq : pc + 2 = q) (k : G E cl sl ad dm a b r q (e0 :: e1 :: e2 :: e3 :: e4 :: e5 :: e6 :: e7 :: e8 :: e9 :: e10 :: e11 :: some .null :: t) (.null :: rest)) : G E cl sl ad dm a b r pc (e0 :: e1 :: e2 :: e3 :: e4 :: e5 :: e6 :: e7 :: e8 :: e9 :: e10 :: e11 :: some .null :: t) rest := fun H L ls hW hS hl => lv_aloadN C.1 C.2.1 d (lh_at hl (i := 12) rfl) (by subst hq; exact k H L ls hW hS hl)
/-- a store into a local: the slot before holds no long -/
def okst (lo : List (Option Value)) : Nat → Bool
  | 0 => true
  | j + 1 => match lo[j]? with
    | some (some v) => v.category != 2
    | _ => true
theorem lh_st {ls : Array Slot} {nL : Nat} {lo lo' : List (Option Value)} {i : Nat} {v : Value} (hl : lv_has ls nL ((i, v) :: (las 0 lo).filter (fun q => !(q.1 == i) && !(q.1 + 1 == i && q.2.category == 2)))) (ho : okst lo i = true) (h1 : ∀ w, lo'[i]? = some (some w) → w = v) (h2 : ∀ j w, j ≠ i → lo'[j]? = some (some w) → lo[j]? = some (some w)) : lh ls nL lo' := by
  refine ⟨hl.1, hl.2.1, fun z hz => ?_⟩
  obtain ⟨j, e, hj⟩ := las_in lo' 0 z hz
  have e : z.1 = j := by omega
  by_cases hji : j = i
  · subst hji
    rw [e, h1 _ hj]
    exact hl.2.2 (j, v) List.mem_cons_self
  · have h3 := h2 j _ hji hj
    refine hl.2.2 z (List.mem_cons_of_mem _ (List.mem_filter.mpr ⟨?_, ?_⟩))
    · have h4 := las_mem lo 0 j z.2 h3
      rw [Nat.zero_add, ← e] at h4
      exact h4
    · rw [e]
      cases i with
      | zero => simp [hji]
      | succ i =>
        by_cases hj2 : j = i
        · subst hj2
          simp only [okst, h3] at ho
          simp at ho
          simp [ho]
        · simp [hji, hj2]

theorem lh_st2 {ls : Array Slot} {nL : Nat} {lo lo' : List (Option Value)} {i : Nat} {v : Value} (hl : lv_has ls nL ((i, v) :: (las 0 lo).filter (fun q => !(q.1 == i) && (!(q.1 == i + 1) && !(q.1 + 1 == i && q.2.category == 2))))) (ho : okst lo i = true) (h1 : ∀ w, lo'[i]? = some (some w) → w = v) (h0 : ∀ w, ¬ lo'[i + 1]? = some (some w)) (h2 : ∀ j w, j ≠ i → j ≠ i + 1 → lo'[j]? = some (some w) → lo[j]? = some (some w)) : lh ls nL lo' := by
  refine ⟨hl.1, hl.2.1, fun z hz => ?_⟩
  obtain ⟨j, e, hj⟩ := las_in lo' 0 z hz
  have e : z.1 = j := by omega
  by_cases hji : j = i
  · subst hji
    rw [e, h1 _ hj]
    exact hl.2.2 (j, v) List.mem_cons_self
  · have hj9 : j ≠ i + 1 := fun z9 => h0 _ (z9 ▸ hj)
    have h3 := h2 j _ hji hj9 hj
    refine hl.2.2 z (List.mem_cons_of_mem _ (List.mem_filter.mpr ⟨?_, ?_⟩))
    · have h4 := las_mem lo 0 j z.2 h3
      rw [Nat.zero_add, ← e] at h4
      exact h4
    · rw [e]
      cases i with
      | zero => simp [hji, hj9] <;> omega
      | succ i =>
        by_cases hj2 : j = i
        · subst hj2
          simp only [okst, h3] at ho
          simp at ho
          simp [ho] <;> omega
        · simp [hji, hj2] <;> omega

theorem g_istore_1 {e0 e1 : Option Value} {x : Int32} {t : List (Option Value)} (C : CX E cc own lev) (d : decode cc pc = .ok (.istore_n 1, 1)) (hq : pc + 1 = q) (hn : 1 < eN E) (ho : okst (e0 :: e1 :: t) 1 = true) (k : G E cl sl ad dm a b r q (e0 :: some (.int x) :: t) rest) : G E cl sl ad dm a b r pc (e0 :: e1 :: t) (.int x :: rest) := fun H L ls hW hS hl => lv_istore_n C.1 C.2.1 d rfl hl hn rfl (fun ls' h' => by
  subst hq
  refine k H L ls' hW hS (lh_st h' ho (fun w h => by cases h; rfl) (fun j w hj h => ?_))
  iterate 2 (rcases j with _ | j; (first | exact absurd rfl hj | exact h | exact absurd rfl hj2))
  exact h)
theorem g_astore_1 {e0 e1 : Option Value} {x : Nat} {t : List (Option Value)} (C : CX E cc own lev) (d : decode cc pc = .ok (.astore_n 1, 1)) (hq : pc + 1 = q) (hn : 1 < eN E) (ho : okst (e0 :: e1 :: t) 1 = true) (k : G E cl sl ad dm a b r q (e0 :: some (.ref x) :: t) rest) : G E cl sl ad dm a b r pc (e0 :: e1 :: t) (.ref x :: rest) := fun H L ls hW hS hl => lv_astore_n C.1 C.2.1 d rfl hl hn rfl (fun ls' h' => by
  subst hq
  refine k H L ls' hW hS (lh_st h' ho (fun w h => by cases h; rfl) (fun j w hj h => ?_))
  iterate 2 (rcases j with _ | j; (first | exact absurd rfl hj | exact h | exact absurd rfl hj2))
  exact h)
theorem g_lstore_1 {e0 e1 : Option Value} {f : Option Value} {x : Int64} {t : List (Option Value)} (C : CX E cc own lev) (d : decode cc pc = .ok (.lstore_n 1, 1)) (hq : pc + 1 = q) (hn : 2 < eN E) (ho : okst (e0 :: e1 :: f :: t) 1 = true) (k : G E cl sl ad dm a b r q (e0 :: some (.long x) :: none :: t) rest) : G E cl sl ad dm a b r pc (e0 :: e1 :: f :: t) (.long x :: rest) := fun H L ls hW hS hl => lv_lstore_n C.1 C.2.1 d rfl hl hn rfl (fun ls' h' => by
  subst hq
  refine k H L ls' hW hS (lh_st2 h' ho (fun w h => by cases h; rfl) (fun w h => by cases h) (fun j w hj hj2 h => ?_))
  iterate 3 (rcases j with _ | j; (first | exact absurd rfl hj | exact h | exact absurd rfl hj2))
  exact h)
theorem g_istore_2 {e0 e1 e2 : Option Value} {x : Int32} {t : List (Option Value)} (C : CX E cc own lev) (d : decode cc pc = .ok (.istore_n 2, 1)) (hq : pc + 1 = q) (hn : 2 < eN E) (ho : okst (e0 :: e1 :: e2 :: t) 2 = true) (k : G E cl sl ad dm a b r q (e0 :: e1 :: some (.int x) :: t) rest) : G E cl sl ad dm a b r pc (e0 :: e1 :: e2 :: t) (.int x :: rest) := fun H L ls hW hS hl => lv_istore_n C.1 C.2.1 d rfl hl hn rfl (fun ls' h' => by
  subst hq
  refine k H L ls' hW hS (lh_st h' ho (fun w h => by cases h; rfl) (fun j w hj h => ?_))
  iterate 3 (rcases j with _ | j; (first | exact absurd rfl hj | exact h | exact absurd rfl hj2))
  exact h)
theorem g_astore_2 {e0 e1 e2 : Option Value} {x : Nat} {t : List (Option Value)} (C : CX E cc own lev) (d : decode cc pc = .ok (.astore_n 2, 1)) (hq : pc + 1 = q) (hn : 2 < eN E) (ho : okst (e0 :: e1 :: e2 :: t) 2 = true) (k : G E cl sl ad dm a b r q (e0 :: e1 :: some (.ref x) :: t) rest) : G E cl sl ad dm a b r pc (e0 :: e1 :: e2 :: t) (.ref x :: rest) := fun H L ls hW hS hl => lv_astore_n C.1 C.2.1 d rfl hl hn rfl (fun ls' h' => by
  subst hq
  refine k H L ls' hW hS (lh_st h' ho (fun w h => by cases h; rfl) (fun j w hj h => ?_))
  iterate 3 (rcases j with _ | j; (first | exact absurd rfl hj | exact h | exact absurd rfl hj2))
  exact h)
theorem g_lstore_2 {e0 e1 e2 : Option Value} {f : Option Value} {x : Int64} {t : List (Option Value)} (C : CX E cc own lev) (d : decode cc pc = .ok (.lstore_n 2, 1)) (hq : pc + 1 = q) (hn : 3 < eN E) (ho : okst (e0 :: e1 :: e2 :: f :: t) 2 = true) (k : G E cl sl ad dm a b r q (e0 :: e1 :: some (.long x) :: none :: t) rest) : G E cl sl ad dm a b r pc (e0 :: e1 :: e2 :: f :: t) (.long x :: rest) := fun H L ls hW hS hl => lv_lstore_n C.1 C.2.1 d rfl hl hn rfl (fun ls' h' => by
  subst hq
  refine k H L ls' hW hS (lh_st2 h' ho (fun w h => by cases h; rfl) (fun w h => by cases h) (fun j w hj hj2 h => ?_))
  iterate 4 (rcases j with _ | j; (first | exact absurd rfl hj | exact h | exact absurd rfl hj2))
  exact h)
theorem g_istore_3 {e0 e1 e2 e3 : Option Value} {x : Int32} {t : List (Option Value)} (C : CX E cc own lev) (d : decode cc pc = .ok (.istore_n 3, 1)) (hq : pc + 1 = q) (hn : 3 < eN E) (ho : okst (e0 :: e1 :: e2 :: e3 :: t) 3 = true) (k : G E cl sl ad dm a b r q (e0 :: e1 :: e2 :: some (.int x) :: t) rest) : G E cl sl ad dm a b r pc (e0 :: e1 :: e2 :: e3 :: t) (.int x :: rest) := fun H L ls hW hS hl => lv_istore_n C.1 C.2.1 d rfl hl hn rfl (fun ls' h' => by
  subst hq
  refine k H L ls' hW hS (lh_st h' ho (fun w h => by cases h; rfl) (fun j w hj h => ?_))
  iterate 4 (rcases j with _ | j; (first | exact absurd rfl hj | exact h | exact absurd rfl hj2))
  exact h)
theorem g_astore_3 {e0 e1 e2 e3 : Option Value} {x : Nat} {t : List (Option Value)} (C : CX E cc own lev) (d : decode cc pc = .ok (.astore_n 3, 1)) (hq : pc + 1 = q) (hn : 3 < eN E) (ho : okst (e0 :: e1 :: e2 :: e3 :: t) 3 = true) (k : G E cl sl ad dm a b r q (e0 :: e1 :: e2 :: some (.ref x) :: t) rest) : G E cl sl ad dm a b r pc (e0 :: e1 :: e2 :: e3 :: t) (.ref x :: rest) := fun H L ls hW hS hl => lv_astore_n C.1 C.2.1 d rfl hl hn rfl (fun ls' h' => by
  subst hq
  refine k H L ls' hW hS (lh_st h' ho (fun w h => by cases h; rfl) (fun j w hj h => ?_))
  iterate 4 (rcases j with _ | j; (first | exact absurd rfl hj | exact h | exact absurd rfl hj2))
  exact h)
theorem g_lstore_3 {e0 e1 e2 e3 : Option Value} {f : Option Value} {x : Int64} {t : List (Option Value)} (C : CX E cc own lev) (d : decode cc pc = .ok (.lstore_n 3, 1)) (hq : pc + 1 = q) (hn : 4 < eN E) (ho : okst (e0 :: e1 :: e2 :: e3 :: f :: t) 3 = true) (k : G E cl sl ad dm a b r q (e0 :: e1 :: e2 :: some (.long x) :: none :: t) rest) : G E cl sl ad dm a b r pc (e0 :: e1 :: e2 :: e3 :: f :: t) (.long x :: rest) := fun H L ls hW hS hl => lv_lstore_n C.1 C.2.1 d rfl hl hn rfl (fun ls' h' => by
  subst hq
  refine k H L ls' hW hS (lh_st2 h' ho (fun w h => by cases h; rfl) (fun w h => by cases h) (fun j w hj hj2 h => ?_))
  iterate 5 (rcases j with _ | j; (first | exact absurd rfl hj | exact h | exact absurd rfl hj2))
  exact h)
theorem g_istore_4 {e0 e1 e2 e3 e4 : Option Value} {x : Int32} {t : List (Option Value)} (C : CX E cc own lev) (d : decode cc pc = .ok (.istore 4, 2)) (hq : pc + 2 = q) (hn : 4 < eN E) (ho : okst (e0 :: e1 :: e2 :: e3 :: e4 :: t) 4 = true) (k : G E cl sl ad dm a b r q (e0 :: e1 :: e2 :: e3 :: some (.int x) :: t) rest) : G E cl sl ad dm a b r pc (e0 :: e1 :: e2 :: e3 :: e4 :: t) (.int x :: rest) := fun H L ls hW hS hl => lv_istore C.1 C.2.1 d hl hn rfl (fun ls' h' => by
  subst hq
  refine k H L ls' hW hS (lh_st h' ho (fun w h => by cases h; rfl) (fun j w hj h => ?_))
  iterate 5 (rcases j with _ | j; (first | exact absurd rfl hj | exact h | exact absurd rfl hj2))
  exact h)
theorem g_astore_4 {e0 e1 e2 e3 e4 : Option Value} {x : Nat} {t : List (Option Value)} (C : CX E cc own lev) (d : decode cc pc = .ok (.astore 4, 2)) (hq : pc + 2 = q) (hn : 4 < eN E) (ho : okst (e0 :: e1 :: e2 :: e3 :: e4 :: t) 4 = true) (k : G E cl sl ad dm a b r q (e0 :: e1 :: e2 :: e3 :: some (.ref x) :: t) rest) : G E cl sl ad dm a b r pc (e0 :: e1 :: e2 :: e3 :: e4 :: t) (.ref x :: rest) := fun H L ls hW hS hl => lv_astore C.1 C.2.1 d hl hn rfl (fun ls' h' => by
  subst hq
  refine k H L ls' hW hS (lh_st h' ho (fun w h => by cases h; rfl) (fun j w hj h => ?_))
  iterate 5 (rcases j with _ | j; (first | exact absurd rfl hj | exact h | exact absurd rfl hj2))
  exact h)
theorem g_lstore_4 {e0 e1 e2 e3 e4 : Option Value} {f : Option Value} {x : Int64} {t : List (Option Value)} (C : CX E cc own lev) (d : decode cc pc = .ok (.lstore 4, 2)) (hq : pc + 2 = q) (hn : 5 < eN E) (ho : okst (e0 :: e1 :: e2 :: e3 :: e4 :: f :: t) 4 = true) (k : G E cl sl ad dm a b r q (e0 :: e1 :: e2 :: e3 :: some (.long x) :: none :: t) rest) : G E cl sl ad dm a b r pc (e0 :: e1 :: e2 :: e3 :: e4 :: f :: t) (.long x :: rest) := fun H L ls hW hS hl => lv_lstore C.1 C.2.1 d hl hn rfl (fun ls' h' => by
  subst hq
  refine k H L ls' hW hS (lh_st2 h' ho (fun w h => by cases h; rfl) (fun w h => by cases h) (fun j w hj hj2 h => ?_))
  iterate 6 (rcases j with _ | j; (first | exact absurd rfl hj | exact h | exact absurd rfl hj2))
  exact h)
theorem g_istore_5 {e0 e1 e2 e3 e4 e5 : Option Value} {x : Int32} {t : List (Option Value)} (C : CX E cc own lev) (d : decode cc pc = .ok (.istore 5, 2)) (hq : pc + 2 = q) (hn : 5 < eN E) (ho : okst (e0 :: e1 :: e2 :: e3 :: e4 :: e5 :: t) 5 = true) (k : G E cl sl ad dm a b r q (e0 :: e1 :: e2 :: e3 :: e4 :: some (.int x) :: t) rest) : G E cl sl ad dm a b r pc (e0 :: e1 :: e2 :: e3 :: e4 :: e5 :: t) (.int x :: rest) := fun H L ls hW hS hl => lv_istore C.1 C.2.1 d hl hn rfl (fun ls' h' => by
  subst hq
  refine k H L ls' hW hS (lh_st h' ho (fun w h => by cases h; rfl) (fun j w hj h => ?_))
  iterate 6 (rcases j with _ | j; (first | exact absurd rfl hj | exact h | exact absurd rfl hj2))
  exact h)
theorem g_astore_5 {e0 e1 e2 e3 e4 e5 : Option Value} {x : Nat} {t : List (Option Value)} (C : CX E cc own lev) (d : decode cc pc = .ok (.astore 5, 2)) (hq : pc + 2 = q) (hn : 5 < eN E) (ho : okst (e0 :: e1 :: e2 :: e3 :: e4 :: e5 :: t) 5 = true) (k : G E cl sl ad dm a b r q (e0 :: e1 :: e2 :: e3 :: e4 :: some (.ref x) :: t) rest) : G E cl sl ad dm a b r pc (e0 :: e1 :: e2 :: e3 :: e4 :: e5 :: t) (.ref x :: rest) := fun H L ls hW hS hl => lv_astore C.1 C.2.1 d hl hn rfl (fun ls' h' => by
  subst hq
  refine k H L ls' hW hS (lh_st h' ho (fun w h => by cases h; rfl) (fun j w hj h => ?_))
  iterate 6 (rcases j with _ | j; (first | exact absurd rfl hj | exact h | exact absurd rfl hj2))
  exact h)
theorem g_lstore_5 {e0 e1 e2 e3 e4 e5 : Option Value} {f : Option Value} {x : Int64} {t : List (Option Value)} (C : CX E cc own lev) (d : decode cc pc = .ok (.lstore 5, 2)) (hq : pc + 2 = q) (hn : 6 < eN E) (ho : okst (e0 :: e1 :: e2 :: e3 :: e4 :: e5 :: f :: t) 5 = true) (k : G E cl sl ad dm a b r q (e0 :: e1 :: e2 :: e3 :: e4 :: some (.long x) :: none :: t) rest) : G E cl sl ad dm a b r pc (e0 :: e1 :: e2 :: e3 :: e4 :: e5 :: f :: t) (.long x :: rest) := fun H L ls hW hS hl => lv_lstore C.1 C.2.1 d hl hn rfl (fun ls' h' => by
  subst hq
  refine k H L ls' hW hS (lh_st2 h' ho (fun w h => by cases h; rfl) (fun w h => by cases h) (fun j w hj hj2 h => ?_))
  iterate 7 (rcases j with _ | j; (first | exact absurd rfl hj | exact h | exact absurd rfl hj2))
  exact h)
theorem g_istore_6 {e0 e1 e2 e3 e4 e5 e6 : Option Value} {x : Int32} {t : List (Option Value)} (C : CX E cc own lev) (d : decode cc pc = .ok (.istore 6, 2)) (hq : pc + 2 = q) (hn : 6 < eN E) (ho : okst (e0 :: e1 :: e2 :: e3 :: e4 :: e5 :: e6 :: t) 6 = true) (k : G E cl sl ad dm a b r q (e0 :: e1 :: e2 :: e3 :: e4 :: e5 :: some (.int x) :: t) rest) : G E cl sl ad dm a b r pc (e0 :: e1 :: e2 :: e3 :: e4 :: e5 :: e6 :: t) (.int x :: rest) := fun H L ls hW hS hl => lv_istore C.1 C.2.1 d hl hn rfl (fun ls' h' => by
  subst hq
  refine k H L ls' hW hS (lh_st h' ho (fun w h => by cases h; rfl) (fun j w hj h => ?_))
  iterate 7 (rcases j with _ | j; (first | exact absurd rfl hj | exact h | exact absurd rfl hj2))
  exact h)
theorem g_astore_6 {e0 e1 e2 e3 e4 e5 e6 : Option Value} {x : Nat} {t : List (Option Value)} (C : CX E cc own lev) (d : decode cc pc = .ok (.astore 6, 2)) (hq : pc + 2 = q) (hn : 6 < eN E) (ho : okst (e0 :: e1 :: e2 :: e3 :: e4 :: e5 :: e6 :: t) 6 = true) (k : G E cl sl ad dm a b r q (e0 :: e1 :: e2 :: e3 :: e4 :: e5 :: some (.ref x) :: t) rest) : G E cl sl ad dm a b r pc (e0 :: e1 :: e2 :: e3 :: e4 :: e5 :: e6 :: t) (.ref x :: rest) := fun H L ls hW hS hl => lv_astore C.1 C.2.1 d hl hn rfl (fun ls' h' => by
  subst hq
  refine k H L ls' hW hS (lh_st h' ho (fun w h => by cases h; rfl) (fun j w hj h => ?_))
  iterate 7 (rcases j with _ | j; (first | exact absurd rfl hj | exact h | exact absurd rfl hj2))
  exact h)
theorem g_lstore_6 {e0 e1 e2 e3 e4 e5 e6 : Option Value} {f : Option Value} {x : Int64} {t : List (Option Value)} (C : CX E cc own lev) (d : decode cc pc = .ok (.lstore 6, 2)) (hq : pc + 2 = q) (hn : 7 < eN E) (ho : okst (e0 :: e1 :: e2 :: e3 :: e4 :: e5 :: e6 :: f :: t) 6 = true) (k : G E cl sl ad dm a b r q (e0 :: e1 :: e2 :: e3 :: e4 :: e5 :: some (.long x) :: none :: t) rest) : G E cl sl ad dm a b r pc (e0 :: e1 :: e2 :: e3 :: e4 :: e5 :: e6 :: f :: t) (.long x :: rest) := fun H L ls hW hS hl => lv_lstore C.1 C.2.1 d hl hn rfl (fun ls' h' => by
  subst hq
  refine k H L ls' hW hS (lh_st2 h' ho (fun w h => by cases h; rfl) (fun w h => by cases h) (fun j w hj hj2 h => ?_))
  iterate 8 (rcases j with _ | j; (first | exact absurd rfl hj | exact h | exact absurd rfl hj2))
  exact h)
theorem g_istore_7 {e0 e1 e2 e3 e4 e5 e6 e7 : Option Value} {x : Int32} {t : List (Option Value)} (C : CX E cc own lev) (d : decode cc pc = .ok (.istore 7, 2)) (hq : pc + 2 = q) (hn : 7 < eN E) (ho : okst (e0 :: e1 :: e2 :: e3 :: e4 :: e5 :: e6 :: e7 :: t) 7 = true) (k : G E cl sl ad dm a b r q (e0 :: e1 :: e2 :: e3 :: e4 :: e5 :: e6 :: some (.int x) :: t) rest) : G E cl sl ad dm a b r pc (e0 :: e1 :: e2 :: e3 :: e4 :: e5 :: e6 :: e7 :: t) (.int x :: rest) := fun H L ls hW hS hl => lv_istore C.1 C.2.1 d hl hn rfl (fun ls' h' => by
  subst hq
  refine k H L ls' hW hS (lh_st h' ho (fun w h => by cases h; rfl) (fun j w hj h => ?_))
  iterate 8 (rcases j with _ | j; (first | exact absurd rfl hj | exact h | exact absurd rfl hj2))
  exact h)
theorem g_astore_7 {e0 e1 e2 e3 e4 e5 e6 e7 : Option Value} {x : Nat} {t : List (Option Value)} (C : CX E cc own lev) (d : decode cc pc = .ok (.astore 7, 2)) (hq : pc + 2 = q) (hn : 7 < eN E) (ho : okst (e0 :: e1 :: e2 :: e3 :: e4 :: e5 :: e6 :: e7 :: t) 7 = true) (k : G E cl sl ad dm a b r q (e0 :: e1 :: e2 :: e3 :: e4 :: e5 :: e6 :: some (.ref x) :: t) rest) : G E cl sl ad dm a b r pc (e0 :: e1 :: e2 :: e3 :: e4 :: e5 :: e6 :: e7 :: t) (.ref x :: rest) := fun H L ls hW hS hl => lv_astore C.1 C.2.1 d hl hn rfl (fun ls' h' => by
  subst hq
  refine k H L ls' hW hS (lh_st h' ho (fun w h => by cases h; rfl) (fun j w hj h => ?_))
  iterate 8 (rcases j with _ | j; (first | exact absurd rfl hj | exact h | exact absurd rfl hj2))
  exact h)
theorem g_lstore_7 {e0 e1 e2 e3 e4 e5 e6 e7 : Option Value} {f : Option Value} {x : Int64} {t : List (Option Value)} (C : CX E cc own lev) (d : decode cc pc = .ok (.lstore 7, 2)) (hq : pc + 2 = q) (hn : 8 < eN E) (ho : okst (e0 :: e1 :: e2 :: e3 :: e4 :: e5 :: e6 :: e7 :: f :: t) 7 = true) (k : G E cl sl ad dm a b r q (e0 :: e1 :: e2 :: e3 :: e4 :: e5 :: e6 :: some (.long x) :: none :: t) rest) : G E cl sl ad dm a b r pc (e0 :: e1 :: e2 :: e3 :: e4 :: e5 :: e6 :: e7 :: f :: t) (.long x :: rest) := fun H L ls hW hS hl => lv_lstore C.1 C.2.1 d hl hn rfl (fun ls' h' => by
  subst hq
  refine k H L ls' hW hS (lh_st2 h' ho (fun w h => by cases h; rfl) (fun w h => by cases h) (fun j w hj hj2 h => ?_))
  iterate 9 (rcases j with _ | j; (first | exact absurd rfl hj | exact h | exact absurd rfl hj2))
  exact h)
theorem g_istore_8 {e0 e1 e2 e3 e4 e5 e6 e7 e8 : Option Value} {x : Int32} {t : List (Option Value)} (C : CX E cc own lev) (d : decode cc pc = .ok (.istore 8, 2)) (hq : pc + 2 = q) (hn : 8 < eN E) (ho : okst (e0 :: e1 :: e2 :: e3 :: e4 :: e5 :: e6 :: e7 :: e8 :: t) 8 = true) (k : G E cl sl ad dm a b r q (e0 :: e1 :: e2 :: e3 :: e4 :: e5 :: e6 :: e7 :: some (.int x) :: t) rest) : G E cl sl ad dm a b r pc (e0 :: e1 :: e2 :: e3 :: e4 :: e5 :: e6 :: e7 :: e8 :: t) (.int x :: rest) := fun H L ls hW hS hl => lv_istore C.1 C.2.1 d hl hn rfl (fun ls' h' => by
  subst hq
  refine k H L ls' hW hS (lh_st h' ho (fun w h => by cases h; rfl) (fun j w hj h => ?_))
  iterate 9 (rcases j with _ | j; (first | exact absurd rfl hj | exact h | exact absurd rfl hj2))
  exact h)
theorem g_astore_8 {e0 e1 e2 e3 e4 e5 e6 e7 e8 : Option Value} {x : Nat} {t : List (Option Value)} (C : CX E cc own lev) (d : decode cc pc = .ok (.astore 8, 2)) (hq : pc + 2 = q) (hn : 8 < eN E) (ho : okst (e0 :: e1 :: e2 :: e3 :: e4 :: e5 :: e6 :: e7 :: e8 :: t) 8 = true) (k : G E cl sl ad dm a b r q (e0 :: e1 :: e2 :: e3 :: e4 :: e5 :: e6 :: e7 :: some (.ref x) :: t) rest) : G E cl sl ad dm a b r pc (e0 :: e1 :: e2 :: e3 :: e4 :: e5 :: e6 :: e7 :: e8 :: t) (.ref x :: rest) := fun H L ls hW hS hl => lv_astore C.1 C.2.1 d hl hn rfl (fun ls' h' => by
  subst hq
  refine k H L ls' hW hS (lh_st h' ho (fun w h => by cases h; rfl) (fun j w hj h => ?_))
  iterate 9 (rcases j with _ | j; (first | exact absurd rfl hj | exact h | exact absurd rfl hj2))
  exact h)
theorem g_lstore_8 {e0 e1 e2 e3 e4 e5 e6 e7 e8 : Option Value} {f : Option Value} {x : Int64} {t : List (Option Value)} (C : CX E cc own lev) (d : decode cc pc = .ok (.lstore 8, 2)) (hq : pc + 2 = q) (hn : 9 < eN E) (ho : okst (e0 :: e1 :: e2 :: e3 :: e4 :: e5 :: e6 :: e7 :: e8 :: f :: t) 8 = true) (k : G E cl sl ad dm a b r q (e0 :: e1 :: e2 :: e3 :: e4 :: e5 :: e6 :: e7 :: some (.long x) :: none :: t) rest) : G E cl sl ad dm a b r pc (e0 :: e1 :: e2 :: e3 :: e4 :: e5 :: e6 :: e7 :: e8 :: f :: t) (.long x :: rest) := fun H L ls hW hS hl => lv_lstore C.1 C.2.1 d hl hn rfl (fun ls' h' => by
  subst hq
  refine k H L ls' hW hS (lh_st2 h' ho (fun w h => by cases h; rfl) (fun w h => by cases h) (fun j w hj hj2 h => ?_))
  iterate 10 (rcases j with _ | j; (first | exact absurd rfl hj | exact h | exact absurd rfl hj2))
  exact h)
theorem g_istore_9 {e0 e1 e2 e3 e4 e5 e6 e7 e8 e9 : Option Value} {x : Int32} {t : List (Option Value)} (C : CX E cc own lev) (d : decode cc pc = .ok (.istore 9, 2)) (hq : pc + 2 = q) (hn : 9 < eN E) (ho : okst (e0 :: e1 :: e2 :: e3 :: e4 :: e5 :: e6 :: e7 :: e8 :: e9 :: t) 9 = true) (k : G E cl sl ad dm a b r q (e0 :: e1 :: e2 :: e3 :: e4 :: e5 :: e6 :: e7 :: e8 :: some (.int x) :: t) rest) : G E cl sl ad dm a b r pc (e0 :: e1 :: e2 :: e3 :: e4 :: e5 :: e6 :: e7 :: e8 :: e9 :: t) (.int x :: rest) := fun H L ls hW hS hl => lv_istore C.1 C.2.1 d hl hn rfl (fun ls' h' => by
  subst hq
  refine k H L ls' hW hS (lh_st h' ho (fun w h => by cases h; rfl) (fun j w hj h => ?_))
  iterate 10 (rcases j with _ | j; (first | exact absurd rfl hj | exact h | exact absurd rfl hj2))
  exact h)
theorem g_astore_9 {e0 e1 e2 e3 e4 e5 e6 e7 e8 e9 : Option Value} {x : Nat} {t : List (Option Value)} (C : CX E cc own lev) (d : decode cc pc = .ok (.astore 9, 2)) (hq : pc + 2 = q) (hn : 9 < eN E) (ho : okst (e0 :: e1 :: e2 :: e3 :: e4 :: e5 :: e6 :: e7 :: e8 :: e9 :: t) 9 = true) (k : G E cl sl ad dm a b r q (e0 :: e1 :: e2 :: e3 :: e4 :: e5 :: e6 :: e7 :: e8 :: some (.ref x) :: t) rest) : G E cl sl ad dm a b r pc (e0 :: e1 :: e2 :: e3 :: e4 :: e5 :: e6 :: e7 :: e8 :: e9 :: t) (.ref x :: rest) := fun H L ls hW hS hl => lv_astore C.1 C.2.1 d hl hn rfl (fun ls' h' => by
  subst hq
  refine k H L ls' hW hS (lh_st h' ho (fun w h => by cases h; rfl) (fun j w hj h => ?_))
  iterate 10 (rcases j with _ | j; (first | exact absurd rfl hj | exact h | exact absurd rfl hj2))
  exact h)
theorem g_lstore_9 {e0 e1 e2 e3 e4 e5 e6 e7 e8 e9 : Option Value} {f : Option Value} {x : Int64} {t : List (Option Value)} (C : CX E cc own lev) (d : decode cc pc = .ok (.lstore 9, 2)) (hq : pc + 2 = q) (hn : 10 < eN E) (ho : okst (e0 :: e1 :: e2 :: e3 :: e4 :: e5 :: e6 :: e7 :: e8 :: e9 :: f :: t) 9 = true) (k : G E cl sl ad dm a b r q (e0 :: e1 :: e2 :: e3 :: e4 :: e5 :: e6 :: e7 :: e8 :: some (.long x) :: none :: t) rest) : G E cl sl ad dm a b r pc (e0 :: e1 :: e2 :: e3 :: e4 :: e5 :: e6 :: e7 :: e8 :: e9 :: f :: t) (.long x :: rest) := fun H L ls hW hS hl => lv_lstore C.1 C.2.1 d hl hn rfl (fun ls' h' => by
  subst hq
  refine k H L ls' hW hS (lh_st2 h' ho (fun w h => by cases h; rfl) (fun w h => by cases h) (fun j w hj hj2 h => ?_))
  iterate 11 (rcases j with _ | j; (first | exact absurd rfl hj | exact h | exact absurd rfl hj2))
  exact h)
theorem g_istore_10 {e0 e1 e2 e3 e4 e5 e6 e7 e8 e9 e10 : Option Value} {x : Int32} {t : List (Option Value)} (C : CX E cc own lev) (d : decode cc pc = .ok (.istore 10, 2)) (hq : pc + 2 = q) (hn : 10 < eN E) (ho : okst (e0 :: e1 :: e2 :: e3 :: e4 :: e5 :: e6 :: e7 :: e8 :: e9 :: e10 :: t) 10 = true) (k : G E cl sl ad dm a b r q (e0 :: e1 :: e2 :: e3 :: e4 :: e5 :: e6 :: e7 :: e8 :: e9 :: some (.int x) :: t) rest) : G E cl sl ad dm a b r pc (e0 :: e1 :: e2 :: e3 :: e4 :: e5 :: e6 :: e7 :: e8 :: e9 :: e10 :: t) (.int x :: rest) := fun H L ls hW hS hl => lv_istore C.1 C.2.1 d hl hn rfl (fun ls' h' => by
  subst hq
  refine k H L ls' hW hS (lh_st h' ho (fun w h => by cases h; rfl) (fun j w hj h => ?_))
  iterate 11 (rcases j with _ | j; (first | exact absurd rfl hj | exact h | exact absurd rfl hj2))
  exact h)
theorem g_astore_10 {e0 e1 e2 e3 e4 e5 e6 e7 e8 e9 e10 : Option Value} {x : Nat} {t : List (Option Value)} (C : CX E cc own lev) (d : decode cc pc = .ok (.astore 10, 2)) (hq : pc + 2 = q) (hn : 10 < eN E) (ho : okst (e0 :: e1 :: e2 :: e3 :: e4 :: e5 :: e6 :: e7 :: e8 :: e9 :: e10 :: t) 10 = true) (k : G E cl sl ad dm a b r q (e0 :: e1 :: e2 :: e3 :: e4 :: e5 :: e6 :: e7 :: e8 :: e9 :: some (.ref x) :: t) rest) : G E cl sl ad dm a b r pc (e0 :: e1 :: e2 :: e3 :: e4 :: e5 :: e6 :: e7 :: e8 :: e9 :: e10 :: t) (.ref x :: rest) := fun H L ls hW hS hl => lv_astore C.1 C.2.1 d hl hn rfl (fun ls' h' => by
  subst hq
  refine k H L ls' hW hS (lh_st h' ho (fun w h => by cases h; rfl) (fun j w hj h => ?_))
  iterate 11 (rcases j with _ | j; (first | exact absurd rfl hj | exact h | exact absurd rfl hj2))
  exact h)
theorem g_lstore_10 {e0 e1 e2 e3 e4 e5 e6 e7 e8 e9 e10 : Option Value} {f : Option Value} {x : Int64} {t : List (Option Value)} (C : CX E cc own lev) (d : decode cc pc = .ok (.lstore 10, 2)) (hq : pc + 2 = q) (hn : 11 < eN E) (ho : okst (e0 :: e1 :: e2 :: e3 :: e4 :: e5 :: e6 :: e7 :: e8 :: e9 :: e10 :: f :: t) 10 = true) (k : G E cl sl ad dm a b r q (e0 :: e1 :: e2 :: e3 :: e4 :: e5 :: e6 :: e7 :: e8 :: e9 :: some (.long x) :: none :: t) rest) : G E cl sl ad dm a b r pc (e0 :: e1 :: e2 :: e3 :: e4 :: e5 :: e6 :: e7 :: e8 :: e9 :: e10 :: f :: t) (.long x :: rest) := fun H L ls hW hS hl => lv_lstore C.1 C.2.1 d hl hn rfl (fun ls' h' => by
  subst hq
  refine k H L ls' hW hS (lh_st2 h' ho (fun w h => by cases h; rfl) (fun w h => by cases h) (fun j w hj hj2 h => ?_))
  iterate 12 (rcases j with _ | j; (first | exact absurd rfl hj | exact h | exact absurd rfl hj2))
  exact h)
theorem g_istore_11 {e0 e1 e2 e3 e4 e5 e6 e7 e8 e9 e10 e11 : Option Value} {x : Int32} {t : List (Option Value)} (C : CX E cc own lev) (d : decode cc pc = .ok (.istore 11, 2)) (hq : pc + 2 = q) (hn : 11 < eN E) (ho : okst (e0 :: e1 :: e2 :: e3 :: e4 :: e5 :: e6 :: e7 :: e8 :: e9 :: e10 :: e11 :: t) 11 = true) (k : G E cl sl ad dm a b r q (e0 :: e1 :: e2 :: e3 :: e4 :: e5 :: e6 :: e7 :: e8 :: e9 :: e10 :: some (.int x) :: t) rest) : G E cl sl ad dm a b r pc (e0 :: e1 :: e2 :: e3 :: e4 :: e5 :: e6 :: e7 :: e8 :: e9 :: e10 :: e11 :: t) (.int x :: rest) := fun H L ls hW hS hl => lv_istore C.1 C.2.1 d hl hn rfl (fun ls' h' => by
  subst hq
  refine k H L ls' hW hS (lh_st h' ho (fun w h => by cases h; rfl) (fun j w hj h => ?_))
  iterate 12 (rcases j with _ | j; (first | exact absurd rfl hj | exact h | exact absurd rfl hj2))
  exact h)
theorem g_astore_11 {e0 e1 e2 e3 e4 e5 e6 e7 e8 e9 e10 e11 : Option Value} {x : Nat} {t : List (Option Value)} (C : CX E cc own lev) (d : decode cc pc = .ok (.astore 11, 2)) (hq : pc + 2 = q) (hn : 11 < eN E) (ho : okst (e0 :: e1 :: e2 :: e3 :: e4 :: e5 :: e6 :: e7 :: e8 :: e9 :: e10 :: e11 :: t) 11 = true) (k : G E cl sl ad dm a b r q (e0 :: e1 :: e2 :: e3 :: e4 :: e5 :: e6 :: e7 :: e8 :: e9 :: e10 :: some (.ref x) :: t) rest) : G E cl sl ad dm a b r pc (e0 :: e1 :: e2 :: e3 :: e4 :: e5 :: e6 :: e7 :: e8 :: e9 :: e10 :: e11 :: t) (.ref x :: rest) := fun H L ls hW hS hl => lv_astore C.1 C.2.1 d hl hn rfl (fun ls' h' => by
  subst hq
  refine k H L ls' hW hS (lh_st h' ho (fun w h => by cases h; rfl) (fun j w hj h => ?_))
  iterate 12 (rcases j with _ | j; (first | exact absurd rfl hj | exact h | exact absurd rfl hj2))
  exact h)
theorem g_lstore_11 {e0 e1 e2 e3 e4 e5 e6 e7 e8 e9 e10 e11 : Option Value} {f : Option Value} {x : Int64} {t : List (Option Value)} (C : CX E cc own lev) (d : decode cc pc = .ok (.lstore 11, 2)) (hq : pc + 2 = q) (hn : 12 < eN E) (ho : okst (e0 :: e1 :: e2 :: e3 :: e4 :: e5 :: e6 :: e7 :: e8 :: e9 :: e10 :: e11 :: f :: t) 11 = true) (k : G E cl sl ad dm a b r q (e0 :: e1 :: e2 :: e3 :: e4 :: e5 :: e6 :: e7 :: e8 :: e9 :: e10 :: some (.long x) :: none :: t) rest) : G E cl sl ad dm a b r pc (e0 :: e1 :: e2 :: e3 :: e4 :: e5 :: e6 :: e7 :: e8 :: e9 :: e10 :: e11 :: f :: t) (.long x :: rest) := fun H L ls hW hS hl => lv_lstore C.1 C.2.1 d hl hn rfl (fun ls' h' => by
  subst hq
  refine k H L ls' hW hS (lh_st2 h' ho (fun w h => by cases h; rfl) (fun w h => by cases h) (fun j w hj hj2 h => ?_))
  iterate 13 (rcases j with _ | j; (first | exact absurd rfl hj | exact h | exact absurd rfl hj2))
  exact h)
theorem g_istore_12 {e0 e1 e2 e3 e4 e5 e6 e7 e8 e9 e10 e11 e12 : Option Value} {x : Int32} {t : List (Option Value)} (C : CX E cc own lev) (d : decode cc pc = .ok (.istore 12, 2)) (hq : pc + 2 = q) (hn : 12 < eN E) (ho : okst (e0 :: e1 :: e2 :: e3 :: e4 :: e5 :: e6 :: e7 :: e8 :: e9 :: e10 :: e11 :: e12 :: t) 12 = true) (k : G E cl sl ad dm a b r q (e0 :: e1 :: e2 :: e3 :: e4 :: e5 :: e6 :: e7 :: e8 :: e9 :: e10 :: e11 :: some (.int x) :: t) rest) : G E cl sl ad dm a b r pc (e0 :: e1 :: e2 :: e3 :: e4 :: e5 :: e6 :: e7 :: e8 :: e9 :: e10 :: e11 :: e12 :: t) (.int x :: rest) := fun H L ls hW hS hl => lv_istore C.1 C.2.1 d hl hn rfl (fun ls' h' => by
  subst hq
  refine k H L ls' hW hS (lh_st h' ho (fun w h => by cases h; rfl) (fun j w hj h => ?_))
  iterate 13 (rcases j with _ | j; (first | exact absurd rfl hj | exact h | exact absurd rfl hj2))
  exact h)
theorem g_astore_12 {e0 e1 e2 e3 e4 e5 e6 e7 e8 e9 e10 e11 e12 : Option Value} {x : Nat} {t : List (Option Value)} (C : CX E cc own lev) (d : decode cc pc = .ok (.astore 12, 2)) (hq : pc + 2 = q) (hn : 12 < eN E) (ho : okst (e0 :: e1 :: e2 :: e3 :: e4 :: e5 :: e6 :: e7 :: e8 :: e9 :: e10 :: e11 :: e12 :: t) 12 = true) (k : G E cl sl ad dm a b r q (e0 :: e1 :: e2 :: e3 :: e4 :: e5 :: e6 :: e7 :: e8 :: e9 :: e10 :: e11 :: some (.ref x) :: t) rest) : G E cl sl ad dm a b r pc (e0 :: e1 :: e2 :: e3 :: e4 :: e5 :: e6 :: e7 :: e8 :: e9 :: e10 :: e11 :: e12 :: t) (.ref x :: rest) := fun H L ls hW hS hl => lv_astore C.1 C.2.1 d hl hn rfl (fun ls' h' => by
  subst hq
  refine k H L ls' hW hS (lh_st h' ho (fun w h => by cases h; rfl) (fun j w hj h => ?_))
  iterate 13 (rcases j with _ | j; (first | exact absurd rfl hj | exact h | exact absurd rfl hj2))
  exact h)
theorem g_lstore_12 {e0 e1 e2 e3 e4 e5 e6 e7 e8 e9 e10 e11 e12 : Option Value} {f : Option Value} {x : Int64} {t : List (Option Value)} (C : CX E cc own lev) (d : decode cc pc = .ok (.lstore 12, 2)) (hq : pc + 2 = q) (hn : 13 < eN E) (ho : okst (e0 :: e1 :: e2 :: e3 :: e4 :: e5 :: e6 :: e7 :: e8 :: e9 :: e10 :: e11 :: e12 :: f :: t) 12 = true) (k : G E cl sl ad dm a b r q (e0 :: e1 :: e2 :: e3 :: e4 :: e5 :: e6 :: e7 :: e8 :: e9 :: e10 :: e11 :: some (.long x) :: none :: t) rest) : G E cl sl ad dm a b r pc (e0 :: e1 :: e2 :: e3 :: e4 :: e5 :: e6 :: e7 :: e8 :: e9 :: e10 :: e11 :: e12 :: f :: t) (.long x :: rest) := fun H L ls hW hS hl => lv_lstore C.1 C.2.1 d hl hn rfl (fun ls' h' => by
  subst hq
  refine k H L ls' hW hS (lh_st2 h' ho (fun w h => by cases h; rfl) (fun w h => by cases h) (fun j w hj hj2 h => ?_))
  iterate 14 (rcases j with _ | j; (first | exact absurd rfl hj | exact h | exact absurd rfl hj2))
  exact h)
theorem g_astore_1N {e0 e1 : Option Value} {t : List (Option Value)} (C : CX E cc own lev) (d : decode cc pc = .ok (.astore_n 1, 1)) (hq : pc + 1 = q) (hn : 1 < eN E) (ho : okst (e0 :: e1 :: t) 1 = true) (k : G E cl sl ad dm a b r q (e0 :: some .null :: t) rest) : G E cl sl ad dm a b r pc (e0 :: e1 :: t) (.null :: rest) := fun H L ls hW hS hl => lv_astore_nN C.1 C.2.1 d rfl hl hn rfl (fun ls' h' => by
  subst hq
  refine k H L ls' hW hS (lh_st h' ho (fun w h => by cases h; rfl) (fun j w hj h => ?_))
  iterate 2 (rcases j with _ | j; (first | exact absurd rfl hj | exact h))
  exact h)
theorem g_astore_2N {e0 e1 e2 : Option Value} {t : List (Option Value)} (C : CX E cc own lev) (d : decode cc pc = .ok (.astore_n 2, 1)) (hq : pc + 1 = q) (hn : 2 < eN E) (ho : okst (e0 :: e1 :: e2 :: t) 2 = true) (k : G E cl sl ad dm a b r q (e0 :: e1 :: some .null :: t) rest) : G E cl sl ad dm a b r pc (e0 :: e1 :: e2 :: t) (.null :: rest) := fun H L ls hW hS hl => lv_astore_nN C.1 C.2.1 d rfl hl hn rfl (fun ls' h' => by
  subst hq
  refine k H L ls' hW hS (lh_st h' ho (fun w h => by cases h; rfl) (fun j w hj h => ?_))
  iterate 3 (rcases j with _ | j; (first | exact absurd rfl hj | exact h))
  exact h)
theorem g_astore_3N {e0 e1 e2 e3 : Option Value} {t : List (Option Value)} (C : CX E cc own lev) (d : decode cc pc = .ok (.astore_n 3, 1)) (hq : pc + 1 = q) (hn : 3 < eN E) (ho : okst (e0 :: e1 :: e2 :: e3 :: t) 3 = true) (k : G E cl sl ad dm a b r q (e0 :: e1 :: e2 :: some .null :: t) rest) : G E cl sl ad dm a b r pc (e0 :: e1 :: e2 :: e3 :: t) (.null :: rest) := fun H L ls hW hS hl => lv_astore_nN C.1 C.2.1 d rfl hl hn rfl (fun ls' h' => by
  subst hq
  refine k H L ls' hW hS (lh_st h' ho (fun w h => by cases h; rfl) (fun j w hj h => ?_))
  iterate 4 (rcases j with _ | j; (first | exact absurd rfl hj | exact h))
  exact h)
theorem g_astore_4N {e0 e1 e2 e3 e4 : Option Value} {t : List (Option Value)} (C : CX E cc own lev) (d : decode cc pc = .ok (.astore 4, 2)) (hq : pc + 2 = q) (hn : 4 < eN E) (ho : okst (e0 :: e1 :: e2 :: e3 :: e4 :: t) 4 = true) (k : G E cl sl ad dm a b r q (e0 :: e1 :: e2 :: e3 :: some .null :: t) rest) : G E cl sl ad dm a b r pc (e0 :: e1 :: e2 :: e3 :: e4 :: t) (.null :: rest) := fun H L ls hW hS hl => lv_astoreN C.1 C.2.1 d hl hn rfl (fun ls' h' => by
  subst hq
  refine k H L ls' hW hS (lh_st h' ho (fun w h => by cases h; rfl) (fun j w hj h => ?_))
  iterate 5 (rcases j with _ | j; (first | exact absurd rfl hj | exact h))
  exact h)
theorem g_astore_5N {e0 e1 e2 e3 e4 e5 : Option Value} {t : List (Option Value)} (C : CX E cc own lev) (d : decode cc pc = .ok (.astore 5, 2)) (hq : pc + 2 = q) (hn : 5 < eN E) (ho : okst (e0 :: e1 :: e2 :: e3 :: e4 :: e5 :: t) 5 = true) (k : G E cl sl ad dm a b r q (e0 :: e1 :: e2 :: e3 :: e4 :: some .null :: t) rest) : G E cl sl ad dm a b r pc (e0 :: e1 :: e2 :: e3 :: e4 :: e5 :: t) (.null :: rest) := fun H L ls hW hS hl => lv_astoreN C.1 C.2.1 d hl hn rfl (fun ls' h' => by
  subst hq
  refine k H L ls' hW hS (lh_st h' ho (fun w h => by cases h; rfl) (fun j w hj h => ?_))
  iterate 6 (rcases j with _ | j; (first | exact absurd rfl hj | exact h))
  exact h)
theorem g_astore_6N {e0 e1 e2 e3 e4 e5 e6 : Option Value} {t : List (Option Value)} (C : CX E cc own lev) (d : decode cc pc = .ok (.astore 6, 2)) (hq : pc + 2 = q) (hn : 6 < eN E) (ho : okst (e0 :: e1 :: e2 :: e3 :: e4 :: e5 :: e6 :: t) 6 = true) (k : G E cl sl ad dm a b r q (e0 :: e1 :: e2 :: e3 :: e4 :: e5 :: some .null :: t) rest) : G E cl sl ad dm a b r pc (e0 :: e1 :: e2 :: e3 :: e4 :: e5 :: e6 :: t) (.null :: rest) := fun H L ls hW hS hl => lv_astoreN C.1 C.2.1 d hl hn rfl (fun ls' h' => by
  subst hq
  refine k H L ls' hW hS (lh_st h' ho (fun w h => by cases h; rfl) (fun j w hj h => ?_))
  iterate 7 (rcases j with _ | j; (first | exact absurd rfl hj | exact h))
  exact h)
theorem g_astore_7N {e0 e1 e2 e3 e4 e5 e6 e7 : Option Value} {t : List (Option Value)} (C : CX E cc own lev) (d : decode cc pc = .ok (.astore 7, 2)) (hq : pc + 2 = q) (hn : 7 < eN E) (ho : okst (e0 :: e1 :: e2 :: e3 :: e4 :: e5 :: e6 :: e7 :: t) 7 = true) (k : G E cl sl ad dm a b r q (e0 :: e1 :: e2 :: e3 :: e4 :: e5 :: e6 :: some .null :: t) rest) : G E cl sl ad dm a b r pc (e0 :: e1 :: e2 :: e3 :: e4 :: e5 :: e6 :: e7 :: t) (.null :: rest) := fun H L ls hW hS hl => lv_astoreN C.1 C.2.1 d hl hn rfl (fun ls' h' => by
  subst hq
  refine k H L ls' hW hS (lh_st h' ho (fun w h => by cases h; rfl) (fun j w hj h => ?_))
  iterate 8 (rcases j with _ | j; (first | exact absurd rfl hj | exact h))
  exact h)
theorem g_astore_8N {e0 e1 e2 e3 e4 e5 e6 e7 e8 : Option Value} {t : List (Option Value)} (C : CX E cc own lev) (d : decode cc pc = .ok (.astore 8, 2)) (hq : pc + 2 = q) (hn : 8 < eN E) (ho : okst (e0 :: e1 :: e2 :: e3 :: e4 :: e5 :: e6 :: e7 :: e8 :: t) 8 = true) (k : G E cl sl ad dm a b r q (e0 :: e1 :: e2 :: e3 :: e4 :: e5 :: e6 :: e7 :: some .null :: t) rest) : G E cl sl ad dm a b r pc (e0 :: e1 :: e2 :: e3 :: e4 :: e5 :: e6 :: e7 :: e8 :: t) (.null :: rest) := fun H L ls hW hS hl => lv_astoreN C.1 C.2.1 d hl hn rfl (fun ls' h' => by
  subst hq
  refine k H L ls' hW hS (lh_st h' ho (fun w h => by cases h; rfl) (fun j w hj h => ?_))
  iterate 9 (rcases j with _ | j; (first | exact absurd rfl hj | exact h))
  exact h)
theorem g_astore_9N {e0 e1 e2 e3 e4 e5 e6 e7 e8 e9 : Option Value} {t : List (Option Value)} (C : CX E cc own lev) (d : decode cc pc = .ok (.astore 9, 2)) (hq : pc + 2 = q) (hn : 9 < eN E) (ho : okst (e0 :: e1 :: e2 :: e3 :: e4 :: e5 :: e6 :: e7 :: e8 :: e9 :: t) 9 = true) (k : G E cl sl ad dm a b r q (e0 :: e1 :: e2 :: e3 :: e4 :: e5 :: e6 :: e7 :: e8 :: some .null :: t) rest) : G E cl sl ad dm a b r pc (e0 :: e1 :: e2 :: e3 :: e4 :: e5 :: e6 :: e7 :: e8 :: e9 :: t) (.null :: rest) := fun H L ls hW hS hl => lv_astoreN C.1 C.2.1 d hl hn rfl (fun ls' h' => by
  subst hq
  refine k H L ls' hW hS (lh_st h' ho (fun w h => by cases h; rfl) (fun j w hj h => ?_))
  iterate 10 (rcases j with _ | j; (first | exact absurd rfl hj | exact h))
  exact h)
theorem g_astore_10N {e0 e1 e2 e3 e4 e5 e6 e7 e8 e9 e10 : Option Value} {t : List (Option Value)} (C : CX E cc own lev) (d : decode cc pc = .ok (.astore 10, 2)) (hq : pc + 2 = q) (hn : 10 < eN E) (ho : okst (e0 :: e1 :: e2 :: e3 :: e4 :: e5 :: e6 :: e7 :: e8 :: e9 :: e10 :: t) 10 = true) (k : G E cl sl ad dm a b r q (e0 :: e1 :: e2 :: e3 :: e4 :: e5 :: e6 :: e7 :: e8 :: e9 :: some .null :: t) rest) : G E cl sl ad dm a b r pc (e0 :: e1 :: e2 :: e3 :: e4 :: e5 :: e6 :: e7 :: e8 :: e9 :: e10 :: t) (.null :: rest) := fun H L ls hW hS hl => lv_astoreN C.1 C.2.1 d hl hn rfl (fun ls' h' => by
  subst hq
  refine k H L ls' hW hS (lh_st h' ho (fun w h => by cases h; rfl) (fun j w hj h => ?_))
  iterate 11 (rcases j with _ | j; (first | exact absurd rfl hj | exact h))
  exact h)
theorem g_astore_11N {e0 e1 e2 e3 e4 e5 e6 e7 e8 e9 e10 e11 : Option Value} {t : List (Option Value)} (C : CX E cc own lev) (d : decode cc pc = .ok (.astore 11, 2)) (hq : pc + 2 = q) (hn : 11 < eN E) (ho : okst (e0 :: e1 :: e2 :: e3 :: e4 :: e5 :: e6 :: e7 :: e8 :: e9 :: e10 :: e11 :: t) 11 = true) (k : G E cl sl ad dm a b r q (e0 :: e1 :: e2 :: e3 :: e4 :: e5 :: e6 :: e7 :: e8 :: e9 :: e10 :: some .null :: t) rest) : G E cl sl ad dm a b r pc (e0 :: e1 :: e2 :: e3 :: e4 :: e5 :: e6 :: e7 :: e8 :: e9 :: e10 :: e11 :: t) (.null :: rest) := fun H L ls hW hS hl => lv_astoreN C.1 C.2.1 d hl hn rfl (fun ls' h' => by
  subst hq
  refine k H L ls' hW hS (lh_st h' ho (fun w h => by cases h; rfl) (fun j w hj h => ?_))
  iterate 12 (rcases j with _ | j; (first | exact absurd rfl hj | exact h))
  exact h)
theorem g_astore_12N {e0 e1 e2 e3 e4 e5 e6 e7 e8 e9 e10 e11 e12 : Option Value} {t : List (Option Value)} (C : CX E cc own lev) (d : decode cc pc = .ok (.astore 12, 2)) (hq : pc + 2 = q) (hn : 12 < eN E) (ho : okst (e0 :: e1 :: e2 :: e3 :: e4 :: e5 :: e6 :: e7 :: e8 :: e9 :: e10 :: e11 :: e12 :: t) 12 = true) (k : G E cl sl ad dm a b r q (e0 :: e1 :: e2 :: e3 :: e4 :: e5 :: e6 :: e7 :: e8 :: e9 :: e10 :: e11 :: some .null :: t) rest) : G E cl sl ad dm a b r pc (e0 :: e1 :: e2 :: e3 :: e4 :: e5 :: e6 :: e7 :: e8 :: e9 :: e10 :: e11 :: e12 :: t) (.null :: rest) := fun H L ls hW hS hl => lv_astoreN C.1 C.2.1 d hl hn rfl (fun ls' h' => by
  subst hq
  refine k H L ls' hW hS (lh_st h' ho (fun w h => by cases h; rfl) (fun j w hj h => ?_))
  iterate 13 (rcases j with _ | j; (first | exact absurd rfl hj | exact h))
  exact h)
theorem g_iinc_1 {e0 : Option Value} {n : Int} {x v : Int32} {t : List (Option Value)} (C : CX E cc own lev) (d : decode cc pc = .ok (.iinc 1 n, 3)) (hq : pc + 3 = q) (hn : 1 < eN E) (hv : x + Int32.ofInt n = v) (k : G E cl sl ad dm a b r q (e0 :: some (.int v) :: t) rest) (ho : okst (e0 :: some (.int x) :: t) 1 = true := by rfl) : G E cl sl ad dm a b r pc (e0 :: some (.int x) :: t) rest := fun H L ls hW hS hl => by
  have hm := las_mem (e0 :: some (.int x) :: t) 0 1 (.int x) rfl
  rw [Nat.zero_add] at hm
  obtain ⟨kk, hkk⟩ := List.getElem?_of_mem hm
  exact lv_iinc C.1 C.2.1 d hl hkk hv hn rfl (fun ls' h' => by
    subst hq
    refine k H L ls' hW hS (lh_st h' ho (fun w h => by cases h; rfl) (fun j w hj h => ?_))
    iterate 2 (rcases j with _ | j; (first | exact absurd rfl hj | exact h))
    exact h)
theorem g_iinc_2 {e0 e1 : Option Value} {n : Int} {x v : Int32} {t : List (Option Value)} (C : CX E cc own lev) (d : decode cc pc = .ok (.iinc 2 n, 3)) (hq : pc + 3 = q) (hn : 2 < eN E) (hv : x + Int32.ofInt n = v) (k : G E cl sl ad dm a b r q (e0 :: e1 :: some (.int v) :: t) rest) (ho : okst (e0 :: e1 :: some (.int x) :: t) 2 = true := by rfl) : G E cl sl ad dm a b r pc (e0 :: e1 :: some (.int x) :: t) rest := fun H L ls hW hS hl => by
  have hm := las_mem (e0 :: e1 :: some (.int x) :: t) 0 2 (.int x) rfl
  rw [Nat.zero_add] at hm
  obtain ⟨kk, hkk⟩ := List.getElem?_of_mem hm
  exact lv_iinc C.1 C.2.1 d hl hkk hv hn rfl (fun ls' h' => by
    subst hq
    refine k H L ls' hW hS (lh_st h' ho (fun w h => by cases h; rfl) (fun j w hj h => ?_))
    iterate 3 (rcases j with _ | j; (first | exact absurd rfl hj | exact h))
    exact h)
theorem g_iinc_3 {e0 e1 e2 : Option Value} {n : Int} {x v : Int32} {t : List (Option Value)} (C : CX E cc own lev) (d : decode cc pc = .ok (.iinc 3 n, 3)) (hq : pc + 3 = q) (hn : 3 < eN E) (hv : x + Int32.ofInt n = v) (k : G E cl sl ad dm a b r q (e0 :: e1 :: e2 :: some (.int v) :: t) rest) (ho : okst (e0 :: e1 :: e2 :: some (.int x) :: t) 3 = true := by rfl) : G E cl sl ad dm a b r pc (e0 :: e1 :: e2 :: some (.int x) :: t) rest := fun H L ls hW hS hl => by
  have hm := las_mem (e0 :: e1 :: e2 :: some (.int x) :: t) 0 3 (.int x) rfl
  rw [Nat.zero_add] at hm
  obtain ⟨kk, hkk⟩ := List.getElem?_of_mem hm
  exact lv_iinc C.1 C.2.1 d hl hkk hv hn rfl (fun ls' h' => by
    subst hq
    refine k H L ls' hW hS (lh_st h' ho (fun w h => by cases h; rfl) (fun j w hj h => ?_))
    iterate 4 (rcases j with _ | j; (first | exact absurd rfl hj | exact h))
    exact h)
theorem g_iinc_4 {e0 e1 e2 e3 : Option Value} {n : Int} {x v : Int32} {t : List (Option Value)} (C : CX E cc own lev) (d : decode cc pc = .ok (.iinc 4 n, 3)) (hq : pc + 3 = q) (hn : 4 < eN E) (hv : x + Int32.ofInt n = v) (k : G E cl sl ad dm a b r q (e0 :: e1 :: e2 :: e3 :: some (.int v) :: t) rest) (ho : okst (e0 :: e1 :: e2 :: e3 :: some (.int x) :: t) 4 = true := by rfl) : G E cl sl ad dm a b r pc (e0 :: e1 :: e2 :: e3 :: some (.int x) :: t) rest := fun H L ls hW hS hl => by
  have hm := las_mem (e0 :: e1 :: e2 :: e3 :: some (.int x) :: t) 0 4 (.int x) rfl
  rw [Nat.zero_add] at hm
  obtain ⟨kk, hkk⟩ := List.getElem?_of_mem hm
  exact lv_iinc C.1 C.2.1 d hl hkk hv hn rfl (fun ls' h' => by
    subst hq
    refine k H L ls' hW hS (lh_st h' ho (fun w h => by cases h; rfl) (fun j w hj h => ?_))
    iterate 5 (rcases j with _ | j; (first | exact absurd rfl hj | exact h))
    exact h)
theorem g_iinc_5 {e0 e1 e2 e3 e4 : Option Value} {n : Int} {x v : Int32} {t : List (Option Value)} (C : CX E cc own lev) (d : decode cc pc = .ok (.iinc 5 n, 3)) (hq : pc + 3 = q) (hn : 5 < eN E) (hv : x + Int32.ofInt n = v) (k : G E cl sl ad dm a b r q (e0 :: e1 :: e2 :: e3 :: e4 :: some (.int v) :: t) rest) (ho : okst (e0 :: e1 :: e2 :: e3 :: e4 :: some (.int x) :: t) 5 = true := by rfl) : G E cl sl ad dm a b r pc (e0 :: e1 :: e2 :: e3 :: e4 :: some (.int x) :: t) rest := fun H L ls hW hS hl => by
  have hm := las_mem (e0 :: e1 :: e2 :: e3 :: e4 :: some (.int x) :: t) 0 5 (.int x) rfl
  rw [Nat.zero_add] at hm
  obtain ⟨kk, hkk⟩ := List.getElem?_of_mem hm
  exact lv_iinc C.1 C.2.1 d hl hkk hv hn rfl (fun ls' h' => by
    subst hq
    refine k H L ls' hW hS (lh_st h' ho (fun w h => by cases h; rfl) (fun j w hj h => ?_))
    iterate 6 (rcases j with _ | j; (first | exact absurd rfl hj | exact h))
    exact h)
theorem g_iinc_6 {e0 e1 e2 e3 e4 e5 : Option Value} {n : Int} {x v : Int32} {t : List (Option Value)} (C : CX E cc own lev) (d : decode cc pc = .ok (.iinc 6 n, 3)) (hq : pc + 3 = q) (hn : 6 < eN E) (hv : x + Int32.ofInt n = v) (k : G E cl sl ad dm a b r q (e0 :: e1 :: e2 :: e3 :: e4 :: e5 :: some (.int v) :: t) rest) (ho : okst (e0 :: e1 :: e2 :: e3 :: e4 :: e5 :: some (.int x) :: t) 6 = true := by rfl) : G E cl sl ad dm a b r pc (e0 :: e1 :: e2 :: e3 :: e4 :: e5 :: some (.int x) :: t) rest := fun H L ls hW hS hl => by
  have hm := las_mem (e0 :: e1 :: e2 :: e3 :: e4 :: e5 :: some (.int x) :: t) 0 6 (.int x) rfl
  rw [Nat.zero_add] at hm
  obtain ⟨kk, hkk⟩ := List.getElem?_of_mem hm
  exact lv_iinc C.1 C.2.1 d hl hkk hv hn rfl (fun ls' h' => by
    subst hq
    refine k H L ls' hW hS (lh_st h' ho (fun w h => by cases h; rfl) (fun j w hj h => ?_))
    iterate 7 (rcases j with _ | j; (first | exact absurd rfl hj | exact h))
    exact h)
theorem g_iinc_7 {e0 e1 e2 e3 e4 e5 e6 : Option Value} {n : Int} {x v : Int32} {t : List (Option Value)} (C : CX E cc own lev) (d : decode cc pc = .ok (.iinc 7 n, 3)) (hq : pc + 3 = q) (hn : 7 < eN E) (hv : x + Int32.ofInt n = v) (k : G E cl sl ad dm a b r q (e0 :: e1 :: e2 :: e3 :: e4 :: e5 :: e6 :: some (.int v) :: t) rest) (ho : okst (e0 :: e1 :: e2 :: e3 :: e4 :: e5 :: e6 :: some (.int x) :: t) 7 = true := by rfl) : G E cl sl ad dm a b r pc (e0 :: e1 :: e2 :: e3 :: e4 :: e5 :: e6 :: some (.int x) :: t) rest := fun H L ls hW hS hl => by
  have hm := las_mem (e0 :: e1 :: e2 :: e3 :: e4 :: e5 :: e6 :: some (.int x) :: t) 0 7 (.int x) rfl
  rw [Nat.zero_add] at hm
  obtain ⟨kk, hkk⟩ := List.getElem?_of_mem hm
  exact lv_iinc C.1 C.2.1 d hl hkk hv hn rfl (fun ls' h' => by
    subst hq
    refine k H L ls' hW hS (lh_st h' ho (fun w h => by cases h; rfl) (fun j w hj h => ?_))
    iterate 8 (rcases j with _ | j; (first | exact absurd rfl hj | exact h))
    exact h)
theorem g_iinc_8 {e0 e1 e2 e3 e4 e5 e6 e7 : Option Value} {n : Int} {x v : Int32} {t : List (Option Value)} (C : CX E cc own lev) (d : decode cc pc = .ok (.iinc 8 n, 3)) (hq : pc + 3 = q) (hn : 8 < eN E) (hv : x + Int32.ofInt n = v) (k : G E cl sl ad dm a b r q (e0 :: e1 :: e2 :: e3 :: e4 :: e5 :: e6 :: e7 :: some (.int v) :: t) rest) (ho : okst (e0 :: e1 :: e2 :: e3 :: e4 :: e5 :: e6 :: e7 :: some (.int x) :: t) 8 = true := by rfl) : G E cl sl ad dm a b r pc (e0 :: e1 :: e2 :: e3 :: e4 :: e5 :: e6 :: e7 :: some (.int x) :: t) rest := fun H L ls hW hS hl => by
  have hm := las_mem (e0 :: e1 :: e2 :: e3 :: e4 :: e5 :: e6 :: e7 :: some (.int x) :: t) 0 8 (.int x) rfl
  rw [Nat.zero_add] at hm
  obtain ⟨kk, hkk⟩ := List.getElem?_of_mem hm
  exact lv_iinc C.1 C.2.1 d hl hkk hv hn rfl (fun ls' h' => by
    subst hq
    refine k H L ls' hW hS (lh_st h' ho (fun w h => by cases h; rfl) (fun j w hj h => ?_))
    iterate 9 (rcases j with _ | j; (first | exact absurd rfl hj | exact h))
    exact h)
theorem g_iinc_9 {e0 e1 e2 e3 e4 e5 e6 e7 e8 : Option Value} {n : Int} {x v : Int32} {t : List (Option Value)} (C : CX E cc own lev) (d : decode cc pc = .ok (.iinc 9 n, 3)) (hq : pc + 3 = q) (hn : 9 < eN E) (hv : x + Int32.ofInt n = v) (k : G E cl sl ad dm a b r q (e0 :: e1 :: e2 :: e3 :: e4 :: e5 :: e6 :: e7 :: e8 :: some (.int v) :: t) rest) (ho : okst (e0 :: e1 :: e2 :: e3 :: e4 :: e5 :: e6 :: e7 :: e8 :: some (.int x) :: t) 9 = true := by rfl) : G E cl sl ad dm a b r pc (e0 :: e1 :: e2 :: e3 :: e4 :: e5 :: e6 :: e7 :: e8 :: some (.int x) :: t) rest := fun H L ls hW hS hl => by
  have hm := las_mem (e0 :: e1 :: e2 :: e3 :: e4 :: e5 :: e6 :: e7 :: e8 :: some (.int x) :: t) 0 9 (.int x) rfl
  rw [Nat.zero_add] at hm
  obtain ⟨kk, hkk⟩ := List.getElem?_of_mem hm
  exact lv_iinc C.1 C.2.1 d hl hkk hv hn rfl (fun ls' h' => by
    subst hq
    refine k H L ls' hW hS (lh_st h' ho (fun w h => by cases h; rfl) (fun j w hj h => ?_))
    iterate 10 (rcases j with _ | j; (first | exact absurd rfl hj | exact h))
    exact h)
theorem g_iinc_10 {e0 e1 e2 e3 e4 e5 e6 e7 e8 e9 : Option Value} {n : Int} {x v : Int32} {t : List (Option Value)} (C : CX E cc own lev) (d : decode cc pc = .ok (.iinc 10 n, 3)) (hq : pc + 3 = q) (hn : 10 < eN E) (hv : x + Int32.ofInt n = v) (k : G E cl sl ad dm a b r q (e0 :: e1 :: e2 :: e3 :: e4 :: e5 :: e6 :: e7 :: e8 :: e9 :: some (.int v) :: t) rest) (ho : okst (e0 :: e1 :: e2 :: e3 :: e4 :: e5 :: e6 :: e7 :: e8 :: e9 :: some (.int x) :: t) 10 = true := by rfl) : G E cl sl ad dm a b r pc (e0 :: e1 :: e2 :: e3 :: e4 :: e5 :: e6 :: e7 :: e8 :: e9 :: some (.int x) :: t) rest := fun H L ls hW hS hl => by
  have hm := las_mem (e0 :: e1 :: e2 :: e3 :: e4 :: e5 :: e6 :: e7 :: e8 :: e9 :: some (.int x) :: t) 0 10 (.int x) rfl
  rw [Nat.zero_add] at hm
  obtain ⟨kk, hkk⟩ := List.getElem?_of_mem hm
  exact lv_iinc C.1 C.2.1 d hl hkk hv hn rfl (fun ls' h' => by
    subst hq
    refine k H L ls' hW hS (lh_st h' ho (fun w h => by cases h; rfl) (fun j w hj h => ?_))
    iterate 11 (rcases j with _ | j; (first | exact absurd rfl hj | exact h))
    exact h)
theorem g_iinc_11 {e0 e1 e2 e3 e4 e5 e6 e7 e8 e9 e10 : Option Value} {n : Int} {x v : Int32} {t : List (Option Value)} (C : CX E cc own lev) (d : decode cc pc = .ok (.iinc 11 n, 3)) (hq : pc + 3 = q) (hn : 11 < eN E) (hv : x + Int32.ofInt n = v) (k : G E cl sl ad dm a b r q (e0 :: e1 :: e2 :: e3 :: e4 :: e5 :: e6 :: e7 :: e8 :: e9 :: e10 :: some (.int v) :: t) rest) (ho : okst (e0 :: e1 :: e2 :: e3 :: e4 :: e5 :: e6 :: e7 :: e8 :: e9 :: e10 :: some (.int x) :: t) 11 = true := by rfl) : G E cl sl ad dm a b r pc (e0 :: e1 :: e2 :: e3 :: e4 :: e5 :: e6 :: e7 :: e8 :: e9 :: e10 :: some (.int x) :: t) rest := fun H L ls hW hS hl => by
  have hm := las_mem (e0 :: e1 :: e2 :: e3 :: e4 :: e5 :: e6 :: e7 :: e8 :: e9 :: e10 :: some (.int x) :: t) 0 11 (.int x) rfl
  rw [Nat.zero_add] at hm
  obtain ⟨kk, hkk⟩ := List.getElem?_of_mem hm
  exact lv_iinc C.1 C.2.1 d hl hkk hv hn rfl (fun ls' h' => by
    subst hq
    refine k H L ls' hW hS (lh_st h' ho (fun w h => by cases h; rfl) (fun j w hj h => ?_))
    iterate 12 (rcases j with _ | j; (first | exact absurd rfl hj | exact h))
    exact h)
theorem g_iinc_12 {e0 e1 e2 e3 e4 e5 e6 e7 e8 e9 e10 e11 : Option Value} {n : Int} {x v : Int32} {t : List (Option Value)} (C : CX E cc own lev) (d : decode cc pc = .ok (.iinc 12 n, 3)) (hq : pc + 3 = q) (hn : 12 < eN E) (hv : x + Int32.ofInt n = v) (k : G E cl sl ad dm a b r q (e0 :: e1 :: e2 :: e3 :: e4 :: e5 :: e6 :: e7 :: e8 :: e9 :: e10 :: e11 :: some (.int v) :: t) rest) (ho : okst (e0 :: e1 :: e2 :: e3 :: e4 :: e5 :: e6 :: e7 :: e8 :: e9 :: e10 :: e11 :: some (.int x) :: t) 12 = true := by rfl) : G E cl sl ad dm a b r pc (e0 :: e1 :: e2 :: e3 :: e4 :: e5 :: e6 :: e7 :: e8 :: e9 :: e10 :: e11 :: some (.int x) :: t) rest := fun H L ls hW hS hl => by
  have hm := las_mem (e0 :: e1 :: e2 :: e3 :: e4 :: e5 :: e6 :: e7 :: e8 :: e9 :: e10 :: e11 :: some (.int x) :: t) 0 12 (.int x) rfl
  rw [Nat.zero_add] at hm
  obtain ⟨kk, hkk⟩ := List.getElem?_of_mem hm
  exact lv_iinc C.1 C.2.1 d hl hkk hv hn rfl (fun ls' h' => by
    subst hq
    refine k H L ls' hW hS (lh_st h' ho (fun w h => by cases h; rfl) (fun j w hj h => ?_))
    iterate 13 (rcases j with _ | j; (first | exact absurd rfl hj | exact h))
    exact h)
theorem g_if_eq {x : Int32} {off : Int} {tgt : Nat} (C : CX E cc own lev) (d : decode cc pc = .ok (.ifCond .eq off, 3)) (hq : pc + 3 = q) (ht : (pc : Int) + off = (tgt : Int)) (kt : x = 0 → G E cl sl ad dm a b r tgt lo rest) (kf : ¬ x = 0 → G E cl sl ad dm a b r q lo rest) : G E cl sl ad dm a b r pc lo (.int x :: rest) := fun H L ls hW hS hl => lv_if_eq C.1 C.2.1 d ht (fun h => kt h H L ls hW hS hl) (fun h => by subst hq; exact kf h H L ls hW hS hl)
theorem g_if_ne {x : Int32} {off : Int} {tgt : Nat} (C : CX E cc own lev) (d : decode cc pc = .ok (.ifCond .ne off, 3)) (hq : pc + 3 = q) (ht : (pc : Int) + off = (tgt : Int)) (kt : ¬ x = 0 → G E cl sl ad dm a b r tgt lo rest) (kf : x = 0 → G E cl sl ad dm a b r q lo rest) : G E cl sl ad dm a b r pc lo (.int x :: rest) := fun H L ls hW hS hl => lv_if_ne C.1 C.2.1 d ht (fun h => kt h H L ls hW hS hl) (fun h => by subst hq; exact kf h H L ls hW hS hl)
theorem g_if_lt {x : Int32} {off : Int} {tgt : Nat} (C : CX E cc own lev) (d : decode cc pc = .ok (.ifCond .lt off, 3)) (hq : pc + 3 = q) (ht : (pc : Int) + off = (tgt : Int)) (kt : x < 0 → G E cl sl ad dm a b r tgt lo rest) (kf : ¬ x < 0 → G E cl sl ad dm a b r q lo rest) : G E cl sl ad dm a b r pc lo (.int x :: rest) := fun H L ls hW hS hl => lv_if_lt C.1 C.2.1 d ht (fun h => kt h H L ls hW hS hl) (fun h => by subst hq; exact kf h H L ls hW hS hl)
theorem g_if_ge {x : Int32} {off : Int} {tgt : Nat} (C : CX E cc own lev) (d : decode cc pc = .ok (.ifCond .ge off, 3)) (hq : pc + 3 = q) (ht : (pc : Int) + off = (tgt : Int)) (kt : 0 ≤ x → G E cl sl ad dm a b r tgt lo rest) (kf : ¬ 0 ≤ x → G E cl sl ad dm a b r q lo rest) : G E cl sl ad dm a b r pc lo (.int x :: rest) := fun H L ls hW hS hl => lv_if_ge C.1 C.2.1 d ht (fun h => kt h H L ls hW hS hl) (fun h => by subst hq; exact kf h H L ls hW hS hl)
theorem g_if_gt {x : Int32} {off : Int} {tgt : Nat} (C : CX E cc own lev) (d : decode cc pc = .ok (.ifCond .gt off, 3)) (hq : pc + 3 = q) (ht : (pc : Int) + off = (tgt : Int)) (kt : 0 < x → G E cl sl ad dm a b r tgt lo rest) (kf : ¬ 0 < x → G E cl sl ad dm a b r q lo rest) : G E cl sl ad dm a b r pc lo (.int x :: rest) := fun H L ls hW hS hl => lv_if_gt C.1 C.2.1 d ht (fun h => kt h H L ls hW hS hl) (fun h => by subst hq; exact kf h H L ls hW hS hl)
theorem g_if_le {x : Int32} {off : Int} {tgt : Nat} (C : CX E cc own lev) (d : decode cc pc = .ok (.ifCond .le off, 3)) (hq : pc + 3 = q) (ht : (pc : Int) + off = (tgt : Int)) (kt : x ≤ 0 → G E cl sl ad dm a b r tgt lo rest) (kf : ¬ x ≤ 0 → G E cl sl ad dm a b r q lo rest) : G E cl sl ad dm a b r pc lo (.int x :: rest) := fun H L ls hW hS hl => lv_if_le C.1 C.2.1 d ht (fun h => kt h H L ls hW hS hl) (fun h => by subst hq; exact kf h H L ls hW hS hl)
theorem g_icmp_eq {x y : Int32} {off : Int} {tgt : Nat} (C : CX E cc own lev) (d : decode cc pc = .ok (.if_icmp .eq off, 3)) (hq : pc + 3 = q) (ht : (pc : Int) + off = (tgt : Int)) (kt : x = y → G E cl sl ad dm a b r tgt lo rest) (kf : ¬ x = y → G E cl sl ad dm a b r q lo rest) : G E cl sl ad dm a b r pc lo (.int y :: .int x :: rest) := fun H L ls hW hS hl => lv_icmp_eq C.1 C.2.1 d ht (fun h => kt h H L ls hW hS hl) (fun h => by subst hq; exact kf h H L ls hW hS hl)
theorem g_icmp_ne {x y : Int32} {off : Int} {tgt : Nat} (C : CX E cc own lev) (d : decode cc pc = .ok (.if_icmp .ne off, 3)) (hq : pc + 3 = q) (ht : (pc : Int) + off = (tgt : Int)) (kt : ¬ x = y → G E cl sl ad dm a b r tgt lo rest) (kf : x = y → G E cl sl ad dm a b r q lo rest) : G E cl sl ad dm a b r pc lo (.int y :: .int x :: rest) := fun H L ls hW hS hl => lv_icmp_ne C.1 C.2.1 d ht (fun h => kt h H L ls hW hS hl) (fun h => by subst hq; exact kf h H L ls hW hS hl)
theorem g_icmp_lt {x y : Int32} {off : Int} {tgt : Nat} (C : CX E cc own lev) (d : decode cc pc = .ok (.if_icmp .lt off, 3)) (hq : pc + 3 = q) (ht : (pc : Int) + off = (tgt : Int)) (kt : x < y → G E cl sl ad dm a b r tgt lo rest) (kf : ¬ x < y → G E cl sl ad dm a b r q lo rest) : G E cl sl ad dm a b r pc lo (.int y :: .int x :: rest) := fun H L ls hW hS hl => lv_icmp_lt C.1 C.2.1 d ht (fun h => kt h H L ls hW hS hl) (fun h => by subst hq; exact kf h H L ls hW hS hl)
theorem g_icmp_ge {x y : Int32} {off : Int} {tgt : Nat} (C : CX E cc own lev) (d : decode cc pc = .ok (.if_icmp .ge off, 3)) (hq : pc + 3 = q) (ht : (pc : Int) + off = (tgt : Int)) (kt : y ≤ x → G E cl sl ad dm a b r tgt lo rest) (kf : ¬ y ≤ x → G E cl sl ad dm a b r q lo rest) : G E cl sl ad dm a b r pc lo (.int y :: .int x :: rest) := fun H L ls hW hS hl => lv_icmp_ge C.1 C.2.1 d ht (fun h => kt h H L ls hW hS hl) (fun h => by subst hq; exact kf h H L ls hW hS hl)
theorem g_icmp_gt {x y : Int32} {off : Int} {tgt : Nat} (C : CX E cc own lev) (d : decode cc pc = .ok (.if_icmp .gt off, 3)) (hq : pc + 3 = q) (ht : (pc : Int) + off = (tgt : Int)) (kt : y < x → G E cl sl ad dm a b r tgt lo rest) (kf : ¬ y < x → G E cl sl ad dm a b r q lo rest) : G E cl sl ad dm a b r pc lo (.int y :: .int x :: rest) := fun H L ls hW hS hl => lv_icmp_gt C.1 C.2.1 d ht (fun h => kt h H L ls hW hS hl) (fun h => by subst hq; exact kf h H L ls hW hS hl)
theorem g_icmp_le {x y : Int32} {off : Int} {tgt : Nat} (C : CX E cc own lev) (d : decode cc pc = .ok (.if_icmp .le off, 3)) (hq : pc + 3 = q) (ht : (pc : Int) + off = (tgt : Int)) (kt : x ≤ y → G E cl sl ad dm a b r tgt lo rest) (kf : ¬ x ≤ y → G E cl sl ad dm a b r q lo rest) : G E cl sl ad dm a b r pc lo (.int y :: .int x :: rest) := fun H L ls hW hS hl => lv_icmp_le C.1 C.2.1 d ht (fun h => kt h H L ls hW hS hl) (fun h => by subst hq; exact kf h H L ls hW hS hl)
theorem g_goto {off : Int} {tgt : Nat} {st : List Value} (C : CX E cc own lev) (d : decode cc pc = .ok (.goto off, 3)) (ht : (pc : Int) + off = (tgt : Int)) (k : G E cl sl ad dm a b r tgt lo st) : G E cl sl ad dm a b r pc lo st := fun H L ls hW hS hl => lv_goto C.1 C.2.1 d ht (k H L ls hW hS hl)
theorem g_ifnonnull {n : Nat} {off : Int} {tgt : Nat} (C : CX E cc own lev) (d : decode cc pc = .ok (.ifnonnull off, 3)) (ht : (pc : Int) + off = (tgt : Int)) (k : G E cl sl ad dm a b r tgt lo rest) : G E cl sl ad dm a b r pc lo (.ref n :: rest) := fun H L ls hW hS hl => lv_ifnonnull C.1 C.2.1 d ht (k H L ls hW hS hl)
theorem g_ifnull {n : Nat} {off : Int} (C : CX E cc own lev) (d : decode cc pc = .ok (.ifnull off, 3)) (hq : pc + 3 = q) (k : G E cl sl ad dm a b r q lo rest) : G E cl sl ad dm a b r pc lo (.ref n :: rest) := fun H L ls hW hS hl => lv_ifnull C.1 C.2.1 d (by subst hq; exact k H L ls hW hS hl)
theorem g_ifnullN {off : Int} {tgt : Nat} (C : CX E cc own lev) (d : decode cc pc = .ok (.ifnull off, 3)) (ht : (pc : Int) + off = (tgt : Int)) (k : G E cl sl ad dm a b r tgt lo rest) : G E cl sl ad dm a b r pc lo (.null :: rest) := fun H L ls hW hS hl => lv_ifnullN C.1 C.2.1 d ht (k H L ls hW hS hl)
theorem g_ifnonnullN {off : Int} (C : CX E cc own lev) (d : decode cc pc = .ok (.ifnonnull off, 3)) (hq : pc + 3 = q) (k : G E cl sl ad dm a b r q lo rest) : G E cl sl ad dm a b r pc lo (.null :: rest) := fun H L ls hW hS hl => lv_ifnonnullN C.1 C.2.1 d (by subst hq; exact k H L ls hW hS hl)
/-- two references, by their names -/
theorem g_acmp_eq {x y : Nat} {off : Int} {tgt : Nat} (C : CX E cc own lev) (d : decode cc pc = .ok (.if_acmp .eq off, 3)) (hq : pc + 3 = q) (ht : (pc : Int) + off = (tgt : Int)) (hx : dm x = true) (hy : dm y = true) (kt : x = y → G E cl sl ad dm a b r tgt lo rest) (kf : ¬ x = y → G E cl sl ad dm a b r q lo rest) : G E cl sl ad dm a b r pc lo (.ref (ad y) :: .ref (ad x) :: rest) := fun H L ls hW hS hl => by
  subst hq
  have e : (some (ad x) = some (ad y)) ↔ x = y := ⟨fun h => hW.2.2 x y hx hy (Option.some.inj h), fun h => by rw [h]⟩
  exact lv_acmp_eq (rx := some (ad x)) (ry := some (ad y)) C.1 C.2.1 d ht (fun h => kt (e.mp h) H L ls hW hS hl) (fun h => kf (fun z => h (e.mpr z)) H L ls hW hS hl)
theorem g_acmp_eqN1 {x : Nat} {off : Int} {tgt : Nat} (C : CX E cc own lev) (d : decode cc pc = .ok (.if_acmp .eq off, 3)) (hq : pc + 3 = q) (ht : (pc : Int) + off = (tgt : Int)) (k : G E cl sl ad dm a b r q lo rest) : G E cl sl ad dm a b r pc lo (.ref x :: .null :: rest) := fun H L ls hW hS hl => by
  subst hq
  exact lv_acmp_eq (rx := none) (ry := some x) C.1 C.2.1 d ht (fun h => by cases h) (fun h => k H L ls hW hS hl)
theorem g_acmp_eqN2 {x : Nat} {off : Int} {tgt : Nat} (C : CX E cc own lev) (d : decode cc pc = .ok (.if_acmp .eq off, 3)) (hq : pc + 3 = q) (ht : (pc : Int) + off = (tgt : Int)) (k : G E cl sl ad dm a b r q lo rest) : G E cl sl ad dm a b r pc lo (.null :: .ref x :: rest) := fun H L ls hW hS hl => by
  subst hq
  exact lv_acmp_eq (rx := some x) (ry := none) C.1 C.2.1 d ht (fun h => by cases h) (fun h => k H L ls hW hS hl)
/-- two references, by their names -/
theorem g_acmp_ne {x y : Nat} {off : Int} {tgt : Nat} (C : CX E cc own lev) (d : decode cc pc = .ok (.if_acmp .ne off, 3)) (hq : pc + 3 = q) (ht : (pc : Int) + off = (tgt : Int)) (hx : dm x = true) (hy : dm y = true) (kt : ¬ x = y → G E cl sl ad dm a b r tgt lo rest) (kf : x = y → G E cl sl ad dm a b r q lo rest) : G E cl sl ad dm a b r pc lo (.ref (ad y) :: .ref (ad x) :: rest) := fun H L ls hW hS hl => by
  subst hq
  have e : (some (ad x) = some (ad y)) ↔ x = y := ⟨fun h => hW.2.2 x y hx hy (Option.some.inj h), fun h => by rw [h]⟩
  exact lv_acmp_ne (rx := some (ad x)) (ry := some (ad y)) C.1 C.2.1 d ht (fun h => kt (fun z => h (e.mpr z)) H L ls hW hS hl) (fun h => kf (e.mp h) H L ls hW hS hl)
theorem g_acmp_neN1 {x : Nat} {off : Int} {tgt : Nat} (C : CX E cc own lev) (d : decode cc pc = .ok (.if_acmp .ne off, 3)) (hq : pc + 3 = q) (ht : (pc : Int) + off = (tgt : Int)) (k : G E cl sl ad dm a b r tgt lo rest) : G E cl sl ad dm a b r pc lo (.ref x :: .null :: rest) := fun H L ls hW hS hl => by
  subst hq
  exact lv_acmp_ne (rx := none) (ry := some x) C.1 C.2.1 d ht (fun h => k H L ls hW hS hl) (fun h => by cases h)
theorem g_acmp_neN2 {x : Nat} {off : Int} {tgt : Nat} (C : CX E cc own lev) (d : decode cc pc = .ok (.if_acmp .ne off, 3)) (hq : pc + 3 = q) (ht : (pc : Int) + off = (tgt : Int)) (k : G E cl sl ad dm a b r tgt lo rest) : G E cl sl ad dm a b r pc lo (.null :: .ref x :: rest) := fun H L ls hW hS hl => by
  subst hq
  exact lv_acmp_ne (rx := some x) (ry := none) C.1 C.2.1 d ht (fun h => k H L ls hW hS hl) (fun h => by cases h)
theorem g_tableOut {dflt lw hi : Int} {offs : Array Int} {len : Nat} {x : Int32} {tgt : Nat} (C : CX E cc own lev) (d : decode cc pc = .ok (.tableswitch dflt lw hi offs, len)) (h : x.toInt < lw ∨ hi < x.toInt) (ht : (pc : Int) + dflt = (tgt : Int)) (k : G E cl sl ad dm a b r tgt lo rest) : G E cl sl ad dm a b r pc lo (.int x :: rest) := fun H L ls hW hS hl => lv_tableOut C.1 C.2.1 d h ht (k H L ls hW hS hl)
theorem g_tableIn {dflt lw hi : Int} {offs : Array Int} {len : Nat} {x : Int32} {off : Int} {tgt : Nat} (C : CX E cc own lev) (d : decode cc pc = .ok (.tableswitch dflt lw hi offs, len)) (h1 : ¬ x.toInt < lw) (h2 : ¬ hi < x.toInt) (ho : offs[(x.toInt - lw).toNat]? = some off) (ht : (pc : Int) + off = (tgt : Int)) (k : G E cl sl ad dm a b r tgt lo rest) : G E cl sl ad dm a b r pc lo (.int x :: rest) := fun H L ls hW hS hl => lv_tableIn C.1 C.2.1 d h1 h2 ho ht (k H L ls hW hS hl)
end GR
end
section
/-! rows of fields and arrays, in the world's words -/
/-- a field that a class's pool number names: class number, slot, kind -/
def FF (own : String) (idx ci k t : Nat) : Prop := ∃ (Cn : String) (T : u_T) (N : Nat), vwCl[ci]? = some (Cn, T, N) ∧ (∀ w ∈ u_ws Cn T N, w ∈ gd) ∧ Cond.fieldLink own idx (T k).1 (T k).2.1 (T k).2.2.1 ∈ gd ∧ k < N ∧ (kds ci)[k]? = some t ∧ (kds ci).length = N
/-- and its type, and whether it is final -/
def FP (own : String) (idx ci k t : Nat) (fin : Bool) (ty : FieldType) : Prop := ∃ (Cn : String) (T : u_T) (N : Nat) (ty0 : Nat → FieldType), vwCl[ci]? = some (Cn, T, N) ∧ (∀ w ∈ u_ws Cn T N, w ∈ gd) ∧ Cond.fieldLink own idx (T k).1 (T k).2.1 (T k).2.2.1 ∈ gd ∧ k < N ∧ (kds ci)[k]? = some t ∧ (kds ci).length = N ∧ (∀ k, k < N → parseFieldDescriptor (T k).2.2.1 = some (ty0 k)) ∧ (∀ a, a < N → ∀ b, b < N → a ≠ b → (T a).2.1 ≠ (T b).2.1) ∧ (T k).2.2.2 = fin ∧ ty0 k = ty ∧ (T k).1 = Cn
section GH
variable {E : EN} {cc : ByteArray} {own : String} {lev cl sl : Nat} {ad : Nat → Nat} {dm : Nat → Bool} {a : Nat → Nat → Int32} {b : Nat → Nat → Int64} {r : Nat → Nat → Option Nat} {pc q : Nat} {lo : List (Option Value)} {rest : List Value}
theorem g_get {idx ci k t n : Nat} (C : CX E cc own lev) (F : FF own idx ci k t) (d : decode cc pc = .ok (.getfield idx, 3)) (hq : pc + 3 = q) (hl : ly n = .inl ci) (hd : dm n = true)
    (kk : G E cl sl ad dm a b r q lo (vl ad (a n) (b n) (r n) k t :: rest)) : G E cl sl ad dm a b r pc lo (.ref (ad n) :: rest) := fun H L ls hW hS hl' => by
  subst hq
  obtain ⟨Cn, T, N, h1, h2, h3, h4, h5, h6⟩ := F
  obtain ⟨hx, hb, hml, hown, hts, hK, -⟩ := C
  have hat := (hW.2.1 n hd).2
  rw [ce_o hl] at hat
  refine va_get (ws := [(ad n, .inr (ci, vls ad (a n) (b n) (r n) 0 (kds ci)))]) (v := vl ad (a n) (b n) (r n) k t) hx hb hts h2 hown hK (fun i z hz => ?_) 0 rfl h1 k h4 (hts _ h3) (fun _ h9 => h9) ?_ d (kk H L ls hW hS hl')
  · cases i with
    | zero => cases hz; exact hat
    | succ i => cases hz
  · have h7 := vls_get (ad := ad) (a := a n) (b := b n) (r := r n) (kds ci) 0 k t h5
    rw [Nat.zero_add] at h7
    exact h7
theorem g_geti {idx ci k n : Nat} (C : CX E cc own lev) (F : FF own idx ci k 0) (d : decode cc pc = .ok (.getfield idx, 3)) (hq : pc + 3 = q) (hl : ly n = .inl ci) (hd : dm n = true) (kk : G E cl sl ad dm a b r q lo (.int (a n k) :: rest)) : G E cl sl ad dm a b r pc lo (.ref (ad n) :: rest) := g_get C F d hq hl hd kk
theorem g_getl {idx ci k n : Nat} (C : CX E cc own lev) (F : FF own idx ci k 1) (d : decode cc pc = .ok (.getfield idx, 3)) (hq : pc + 3 = q) (hl : ly n = .inl ci) (hd : dm n = true) (kk : G E cl sl ad dm a b r q lo (.long (b n k) :: rest)) : G E cl sl ad dm a b r pc lo (.ref (ad n) :: rest) := g_get C F d hq hl hd kk
theorem g_getr {idx ci k n m : Nat} (C : CX E cc own lev) (F : FF own idx ci k 2) (d : decode cc pc = .ok (.getfield idx, 3)) (hq : pc + 3 = q) (hl : ly n = .inl ci) (hd : dm n = true) (hr : r n k = some m) (kk : G E cl sl ad dm a b r q lo (.ref (ad m) :: rest)) : G E cl sl ad dm a b r pc lo (.ref (ad n) :: rest) := g_get C F d hq hl hd (by
  show G E cl sl ad dm a b r q lo (va_rf ((r n k).map ad) :: rest)
  rw [hr]
  exact kk)
theorem g_getrN {idx ci k n : Nat} (C : CX E cc own lev) (F : FF own idx ci k 2) (d : decode cc pc = .ok (.getfield idx, 3)) (hq : pc + 3 = q) (hl : ly n = .inl ci) (hd : dm n = true) (hr : r n k = none) (kk : G E cl sl ad dm a b r q lo (.null :: rest)) : G E cl sl ad dm a b r pc lo (.ref (ad n) :: rest) := g_get C F d hq hl hd (by
  show G E cl sl ad dm a b r q lo (va_rf ((r n k).map ad) :: rest)
  rw [hr]
  exact kk)
/-- the reference that is for ever -/
theorem g_getc {idx ci k n m : Nat} (C : CX E cc own lev) (F : FF own idx ci k (m + 3)) (d : decode cc pc = .ok (.getfield idx, 3)) (hq : pc + 3 = q) (hl : ly n = .inl ci) (hd : dm n = true) (kk : G E cl sl ad dm a b r q lo (.ref (ad m) :: rest)) : G E cl sl ad dm a b r pc lo (.ref (ad n) :: rest) := g_get C F d hq hl hd kk
/-- a field is written -/
theorem g_put {idx ci k t n : Nat} {ty : FieldType} {v : Value} {a' : Nat → Nat → Int32} {b' : Nat → Nat → Int64} {r' : Nat → Nat → Option Nat} (C : CX E cc own lev) (F : FP own idx ci k t false ty) (d : decode cc pc = .ok (.putfield idx, 3)) (hq : pc + 3 = q) (hl : ly n = .inl ci) (hd : dm n = true) (hn : narrow ty v = v) (hf : fits ty v = true)
    (hs : ∀ i, i ≠ n → a i = a' i ∧ b i = b' i ∧ r i = r' i) (hv : vl ad (a' n) (b' n) (r' n) k t = v) (ho : ∀ i u, i ≠ k → vl ad (a n) (b n) (r n) i u = vl ad (a' n) (b' n) (r' n) i u)
    (kk : G E cl sl ad dm a' b' r' q lo rest) : G E cl sl ad dm a b r pc lo (v :: .ref (ad n) :: rest) := fun H L ls hW hS hl' => by
  subst hq
  obtain ⟨Cn, T, N, ty0, h1, h2, h3, h4, h5, h6, hty, hnm, hfin, hty1, hdc⟩ := F
  obtain ⟨hx, hb, hml, hown, hts, hK, -⟩ := C
  have hat := (hW.2.1 n hd).2
  rw [ce_o hl] at hat
  have hap := va_apart (own := own) hts h2 ty0 hty hnm hK h1
  obtain ⟨rr, g1, cell, q1, q2, q3, q4⟩ := hat
  have hr : rr = (Cn, T, N) := Option.some.inj (g1.symm.trans h1)
  subst hr
  obtain ⟨hSl, hfc, kC, hkC, hkind⟩ := hK.1 ci _ h1
  obtain ⟨cf, kf, fi, f, hi, hsl⟩ := hSl k h4
  have hlay := hts _ (h2 _ (u_in_lay h4))
  unfold u_lay at hlay
  rw [if_neg (by rw [hfin]; decide)] at hlay
  have hst := (u_facts hfc hkC (u_lays hts h2 h4) hi).1
  have h9 := u_store (v := v) hfc hkC hkind hlay hi (hty k h4) (by rw [hty1]; exact hn) (by rw [hty1]; exact hf)
  refine W.putK hx hb (f := f) ⟨hown, hts _ h3, ⟨_, _, _, hi⟩, hst⟩ (by rw [q2]; exact h9) q1 q3 (by rw [hsl]; exact k2_hasslot (q4 k h4)) rfl rfl d fun H' e1 e2 e3 => ?_
  rw [hsl] at e1 ⊢
  have hkl : k < (vls ad (a n) (b n) (r n) 0 (kds ci)).length := by rw [vls_len, h6]; exact h4
  have e4 : (vls ad (a n) (b n) (r n) 0 (kds ci)).set k v = vls ad (a' n) (b' n) (r' n) 0 (kds ci) := vls_set (kds ci) 0 k t h5 (by rw [Nat.zero_add]; exact hv) (fun i u hi => ho i u (by omega))
  refine kk H' _ ls (hW.st hd e2 e3 ?_ hs) (hS.put e2 e3 (hW.2.1 n hd).1) hl'
  rw [ce_o hl]
  exact ⟨_, h1, t_OB.to (V := updV (vp_V (vls ad (a n) (b n) (r n) 0 (kds ci))) k v) ⟨_, e1, q2, q3, t_set q4 hap h4 v⟩ (fun j _ => by rw [vp_updV_set hkl v j, e4])⟩
theorem vl_u2 {ad : Nat → Nat} {a : Nat → Nat → Int32} {b : Nat → Nat → Int64} {r : Nat → Nat → Option Nat} {n k i : Nat} {x : Int32} (u : Nat) (h : i ≠ k) : vl ad (a n) (b n) (r n) i u = vl ad (u2 a n k x n) (b n) (r n) i u := by
  match u with
  | 0 => simp [vl, u2, h]
  | 1 => rfl
  | 2 => rfl
  | u + 3 => rfl
theorem vl_u2l {ad : Nat → Nat} {a : Nat → Nat → Int32} {b : Nat → Nat → Int64} {r : Nat → Nat → Option Nat} {n k i : Nat} {x : Int64} (u : Nat) (h : i ≠ k) : vl ad (a n) (b n) (r n) i u = vl ad (a n) (u2 b n k x n) (r n) i u := by
  match u with
  | 0 => rfl
  | 1 => simp [vl, u2, h]
  | 2 => rfl
  | u + 3 => rfl
theorem vl_u2r {ad : Nat → Nat} {a : Nat → Nat → Int32} {b : Nat → Nat → Int64} {r : Nat → Nat → Option Nat} {n k i : Nat} {x : Option Nat} (u : Nat) (h : i ≠ k) : vl ad (a n) (b n) (r n) i u = vl ad (a n) (b n) (u2 r n k x n) i u := by
  match u with
  | 0 => rfl
  | 1 => rfl
  | 2 => simp [vl, u2, h]
  | u + 3 => rfl
theorem g_puti {idx ci k n : Nat} {x : Int32} {ty : FieldType} (C : CX E cc own lev) (F : FP own idx ci k 0 false ty) (d : decode cc pc = .ok (.putfield idx, 3)) (hq : pc + 3 = q) (hl : ly n = .inl ci) (hd : dm n = true) (hn : narrow ty (.int x) = .int x) (hf : fits ty (.int x) = true) (kk : G E cl sl ad dm (u2 a n k x) b r q lo rest) : G E cl sl ad dm a b r pc lo (.int x :: .ref (ad n) :: rest) :=
  g_put C F d hq hl hd hn hf (fun i hi => ⟨(u2_n hi).symm, rfl, rfl⟩) (by show Value.int (u2 a n k x n k) = _; rw [u2_s]) (fun i u hi => vl_u2 u hi) kk
theorem g_putl {idx ci k n : Nat} {x : Int64} {ty : FieldType} (C : CX E cc own lev) (F : FP own idx ci k 1 false ty) (d : decode cc pc = .ok (.putfield idx, 3)) (hq : pc + 3 = q) (hl : ly n = .inl ci) (hd : dm n = true) (hn : narrow ty (.long x) = .long x) (hf : fits ty (.long x) = true) (kk : G E cl sl ad dm a (u2 b n k x) r q lo rest) : G E cl sl ad dm a b r pc lo (.long x :: .ref (ad n) :: rest) :=
  g_put C F d hq hl hd hn hf (fun i hi => ⟨rfl, (u2_n hi).symm, rfl⟩) (by show Value.long (u2 b n k x n k) = _; rw [u2_s]) (fun i u hi => vl_u2l u hi) kk
theorem g_putr {idx ci k n m : Nat} {ty : FieldType} (C : CX E cc own lev) (F : FP own idx ci k 2 false ty) (d : decode cc pc = .ok (.putfield idx, 3)) (hq : pc + 3 = q) (hl : ly n = .inl ci) (hd : dm n = true) (hn : narrow ty (.ref (ad m)) = .ref (ad m)) (hf : fits ty (.ref (ad m)) = true) (kk : G E cl sl ad dm a b (u2 r n k (some m)) q lo rest) : G E cl sl ad dm a b r pc lo (.ref (ad m) :: .ref (ad n) :: rest) :=
  g_put C F d hq hl hd hn hf (fun i hi => ⟨rfl, rfl, (u2_n hi).symm⟩) (by show va_rf ((u2 r n k (some m) n k).map ad) = _; rw [u2_s]; rfl) (fun i u hi => vl_u2r u hi) kk
theorem g_putrN {idx ci k n : Nat} {ty : FieldType} (C : CX E cc own lev) (F : FP own idx ci k 2 false ty) (d : decode cc pc = .ok (.putfield idx, 3)) (hq : pc + 3 = q) (hl : ly n = .inl ci) (hd : dm n = true) (hn : narrow ty .null = .null) (hf : fits ty .null = true) (kk : G E cl sl ad dm a b (u2 r n k none) q lo rest) : G E cl sl ad dm a b r pc lo (.null :: .ref (ad n) :: rest) :=
  g_put C F d hq hl hd hn hf (fun i hi => ⟨rfl, rfl, (u2_n hi).symm⟩) (by show va_rf ((u2 r n k none n k).map ad) = _; rw [u2_s]; rfl) (fun i u hi => vl_u2r u hi) kk
/-- rows of ints, of longs, of references -/
theorem Wd.one {g : GM} {bs : Nat} {H : Heap} (h : Wd g bs ad dm a b r H) {n : Nat} (hd : dm n = true) {e : va_E} (he : ce g ad a b r n = e) : va_P g.1 vwCl [(ad n, e)] H := by
  intro i z hz
  cases i with
  | zero => cases hz; rw [← he]; exact (h.2.1 n hd).2
  | succ i => cases hz
theorem g_iald {n len : Nat} {i : Int32} (C : CX E cc own lev) (d : decode cc pc = .ok (.iaload, 1)) (hq : pc + 1 = q) (hl : ly n = .inr (0, len)) (hd : dm n = true) (hin : vp_in i len) (kk : G E cl sl ad dm a b r q lo (.int (a n i.toNatClampNeg) :: rest)) : G E cl sl ad dm a b r pc lo (.int i :: .ref (ad n) :: rest) := fun H L ls hW hS hl' => by
  subst hq
  exact va_iald C.1 C.2.1 C.2.2.2.2.2.1 (hW.one hd (ce_i hl)) 0 0 rfl rfl hin d (kk H L ls hW hS hl')
theorem g_lald {n len : Nat} {i : Int32} (C : CX E cc own lev) (d : decode cc pc = .ok (.laload, 1)) (hq : pc + 1 = q) (hl : ly n = .inr (1, len)) (hd : dm n = true) (hin : vp_in i len) (kk : G E cl sl ad dm a b r q lo (.long (b n i.toNatClampNeg) :: rest)) : G E cl sl ad dm a b r pc lo (.int i :: .ref (ad n) :: rest) := fun H L ls hW hS hl' => by
  subst hq
  exact va_lald C.1 C.2.1 C.2.2.2.2.2.1 (hW.one hd (ce_l hl)) 0 1 rfl rfl hin d (kk H L ls hW hS hl')
theorem g_aald2 {n len : Nat} {i : Int32} (C : CX E cc own lev) (d : decode cc pc = .ok (.aaload, 1)) (hq : pc + 1 = q) (hl : ly n = .inr (2, len)) (hd : dm n = true) (hin : vp_in i len) (kk : G E cl sl ad dm a b r q lo (va_rf ((r n i.toNatClampNeg).map ad) :: rest)) : G E cl sl ad dm a b r pc lo (.int i :: .ref (ad n) :: rest) := fun H L ls hW hS hl' => by
  subst hq
  exact va_aldq C.1 C.2.1 C.2.2.2.2.2.1 (hW.one hd (ce_f hl)) 0 2 rfl rfl hin d (kk H L ls hW hS hl')
theorem g_aald3 {n len : Nat} {i : Int32} (C : CX E cc own lev) (d : decode cc pc = .ok (.aaload, 1)) (hq : pc + 1 = q) (hl : ly n = .inr (3, len)) (hd : dm n = true) (hin : vp_in i len) (kk : G E cl sl ad dm a b r q lo (va_rf ((r n i.toNatClampNeg).map ad) :: rest)) : G E cl sl ad dm a b r pc lo (.int i :: .ref (ad n) :: rest) := fun H L ls hW hS hl' => by
  subst hq
  exact va_aldq C.1 C.2.1 C.2.2.2.2.2.1 (hW.one hd (ce_p hl)) 0 3 rfl rfl hin d (kk H L ls hW hS hl')
/-- a row of references, the place by its number, what is there known -/
theorem g_aaF {n len j m : Nat} {i : Int32} (C : CX E cc own lev) (d : decode cc pc = .ok (.aaload, 1)) (hq : pc + 1 = q) (hl : ly n = .inr (2, len)) (hd : dm n = true) (hi : i = nI j) (hj : j < len) (h31 : len < 2 ^ 31) (hr : r n j = some m) (kk : G E cl sl ad dm a b r q lo (.ref (ad m) :: rest)) : G E cl sl ad dm a b r pc lo (.int i :: .ref (ad n) :: rest) := by
  subst hi
  refine g_aald2 C d hq hl hd (vp_in_nI hj h31) ?_
  rw [nI_clamp (by omega), hr]
  exact kk
theorem g_aaFN {n len j : Nat} {i : Int32} (C : CX E cc own lev) (d : decode cc pc = .ok (.aaload, 1)) (hq : pc + 1 = q) (hl : ly n = .inr (2, len)) (hd : dm n = true) (hi : i = nI j) (hj : j < len) (h31 : len < 2 ^ 31) (hr : r n j = none) (kk : G E cl sl ad dm a b r q lo (.null :: rest)) : G E cl sl ad dm a b r pc lo (.int i :: .ref (ad n) :: rest) := by
  subst hi
  refine g_aald2 C d hq hl hd (vp_in_nI hj h31) ?_
  rw [nI_clamp (by omega), hr]
  exact kk
theorem g_aaP {n len j m : Nat} {i : Int32} (C : CX E cc own lev) (d : decode cc pc = .ok (.aaload, 1)) (hq : pc + 1 = q) (hl : ly n = .inr (3, len)) (hd : dm n = true) (hi : i = nI j) (hj : j < len) (h31 : len < 2 ^ 31) (hr : r n j = some m) (kk : G E cl sl ad dm a b r q lo (.ref (ad m) :: rest)) : G E cl sl ad dm a b r pc lo (.int i :: .ref (ad n) :: rest) := by
  subst hi
  refine g_aald3 C d hq hl hd (vp_in_nI hj h31) ?_
  rw [nI_clamp (by omega), hr]
  exact kk
theorem g_ia {n len j : Nat} {i : Int32} (C : CX E cc own lev) (d : decode cc pc = .ok (.iaload, 1)) (hq : pc + 1 = q) (hl : ly n = .inr (0, len)) (hd : dm n = true) (hi : i = nI j) (hj : j < len) (h31 : len < 2 ^ 31) (kk : G E cl sl ad dm a b r q lo (.int (a n j) :: rest)) : G E cl sl ad dm a b r pc lo (.int i :: .ref (ad n) :: rest) := by
  subst hi
  refine g_iald C d hq hl hd (vp_in_nI hj h31) ?_
  rw [nI_clamp (by omega)]
  exact kk
theorem g_la {n len j : Nat} {i : Int32} (C : CX E cc own lev) (d : decode cc pc = .ok (.laload, 1)) (hq : pc + 1 = q) (hl : ly n = .inr (1, len)) (hd : dm n = true) (hi : i = nI j) (hj : j < len) (h31 : len < 2 ^ 31) (kk : G E cl sl ad dm a b r q lo (.long (b n j) :: rest)) : G E cl sl ad dm a b r pc lo (.int i :: .ref (ad n) :: rest) := by
  subst hi
  refine g_lald C d hq hl hd (vp_in_nI hj h31) ?_
  rw [nI_clamp (by omega)]
  exact kk
theorem g_alen {n t len : Nat} {v : Int32} (C : CX E cc own lev) (d : decode cc pc = .ok (.arraylength, 1)) (hq : pc + 1 = q) (hl : ly n = .inr (t, len)) (ht : t < 2) (hd : dm n = true) (hv : Int32.ofNat len = v) (kk : G E cl sl ad dm a b r q lo (.int v :: rest)) : G E cl sl ad dm a b r pc lo (.ref (ad n) :: rest) := fun H L ls hW hS hl' => by
  subst hq
  match t, ht, hl with
  | 0, _, hl => exact va_alen C.1 C.2.1 C.2.2.2.2.2.1 (hW.one hd (ce_i hl)) 0 0 rfl rfl hv d (kk H L ls hW hS hl')
  | 1, _, hl => exact va_alen C.1 C.2.1 C.2.2.2.2.2.1 (hW.one hd (ce_l hl)) 0 1 rfl rfl hv d (kk H L ls hW hS hl')
theorem u2_row {α : Type} {f : Nat → Nat → α} {n k : Nat} {v : α} : u2 f n k v n = fun j => if j = k then v else f n j := by
  funext j
  simp [u2]
theorem g_iast {n len j : Nat} {i x : Int32} (C : CX E cc own lev) (d : decode cc pc = .ok (.iastore, 1)) (hq : pc + 1 = q) (hl : ly n = .inr (0, len)) (hd : dm n = true) (hi : i = nI j) (hj : j < len) (h31 : len < 2 ^ 31) (kk : G E cl sl ad dm (u2 a n j x) b r q lo rest) : G E cl sl ad dm a b r pc lo (.int x :: .int i :: .ref (ad n) :: rest) := fun H L ls hW hS hl' => by
  subst hq
  subst hi
  have hat := (hW.2.1 n hd).2
  rw [ce_i hl] at hat
  refine W.iast C.1 C.2.1 hat ((C.2.2.2.2.2.1.2 0 _ rfl).1 len (fun j => .int (a n j))) (fun q => by cases q) (by show ¬ (_ ∨ (arrV _ _ _).slots.size ≤ _); rw [arrV_size]; exact vp_in_nI hj h31) rfl rfl d fun H1 e z oq => ?_
  refine kk H1 _ ls (hW.st hd z oq ?_ (fun i hi => ⟨(u2_n hi).symm, rfl, rfl⟩)) (hS.put z oq (hW.2.1 n hd).1) hl'
  rw [ce_i hl]
  show H1[ad n]? = some (vp_cell _ _)
  rw [e, nI_clamp (by omega), vp_cell_i, vp_cell_i, arrV_store]
  congr 2
  funext q
  by_cases hq : q = j <;> simp [updV, u2, hq]
theorem g_last {n len j : Nat} {i : Int32} {x : Int64} (C : CX E cc own lev) (d : decode cc pc = .ok (.lastore, 1)) (hq : pc + 1 = q) (hl : ly n = .inr (1, len)) (hd : dm n = true) (hi : i = nI j) (hj : j < len) (h31 : len < 2 ^ 31) (kk : G E cl sl ad dm a (u2 b n j x) r q lo rest) : G E cl sl ad dm a b r pc lo (.long x :: .int i :: .ref (ad n) :: rest) := fun H L ls hW hS hl' => by
  subst hq
  subst hi
  have hat := (hW.2.1 n hd).2
  rw [ce_l hl] at hat
  refine W.last C.1 C.2.1 hat ((C.2.2.2.2.2.1.2 1 _ rfl).1 len (fun j => .long (b n j))) (fun q => by cases q) (by show ¬ (_ ∨ (arrV _ _ _).slots.size ≤ _); rw [arrV_size]; exact vp_in_nI hj h31) rfl rfl d fun H1 e z oq => ?_
  refine kk H1 _ ls (hW.st hd z oq ?_ (fun i hi => ⟨rfl, (u2_n hi).symm, rfl⟩)) (hS.put z oq (hW.2.1 n hd).1) hl'
  rw [ce_l hl]
  show H1[ad n]? = some (vp_cell _ _)
  rw [e, nI_clamp (by omega), vp_cell_l, vp_cell_l, arrV_store]
  congr 2
  funext q
  by_cases hq : q = j <;> simp [updV, u2, hq]
theorem g_aastK {n len j m t ci : Nat} {cA : ClassId} {rr : vw_C} {i : Int32} (C : CX E cc own lev) (d : decode cc pc = .ok (.aastore, 1)) (hq : pc + 1 = q) (hce : ∀ r : Nat → Nat → Option Nat, ce (eG E) ad a b r n = .inl (cA, len, .inr (.inr (.inr (.inr (fun k => (r n k).map ad)))))) (ht : (tysG (eG E))[t]? = some (cA, .object rr.1)) (hc : vwCl[ci]? = some rr) (hd : dm n = true) (hm : dm m = true) (hlm : ly m = .inl ci) (hi : i = nI j) (hj : j < len) (h31 : len < 2 ^ 31) (kk : G E cl sl ad dm a b (u2 r n j (some m)) q lo rest) : G E cl sl ad dm a b r pc lo (.ref (ad m) :: .int i :: .ref (ad n) :: rest) := fun H L ls hW hS hl' => by
  subst hq
  subst hi
  obtain ⟨hx, hb, -, -, -, hK, -⟩ := C
  have hat := (hW.2.1 n hd).2
  rw [hce] at hat
  have hav := (hW.2.1 m hm).2
  rw [ce_o hlm] at hav
  obtain ⟨q', g0, cell, g1, g2, g3, -⟩ := hav
  have hlt : (nI j).toNatClampNeg < len := by rw [nI_clamp (by omega)]; exact hj
  have hcls := (hK.1 ci rr hc).2
  obtain ⟨kA, comp, k1, k2, k3, -⟩ := (hK.2 t _ ht).2
  have hcomp : comp = (eG E).1.1 ci := Option.some.inj (k3.symm.trans hcls.1)
  subst hcomp
  obtain ⟨kC, hkC, -⟩ := hcls.2
  refine W.aast hx hb hat (fun q h => by cases h) (fun h => by cases h) k1 k2 rfl hkC ⟨fun q => (vp_in_nI hj h31) (Or.inl q), by show _ < (arrV _ _ _).slots.size; rw [arrV_size]; exact hlt⟩ g1 (fun q h => by rw [g3] at h; cases h) (by rw [g2]; exact hkC) (by rw [g2]; exact va_assign hcls) rfl rfl d fun H1 e z oq => ?_
  refine kk H1 _ ls (hW.st hd z oq ?_ (fun i hi => ⟨rfl, rfl, (u2_n hi).symm⟩)) (hS.put z oq (hW.2.1 n hd).1) hl'
  rw [hce]
  show H1[ad n]? = some (vp_cell _ _)
  rw [e, nI_clamp (by omega), vp_cell_q, vp_cell_q, arrV_store]
  congr 2
  funext q
  by_cases hq : q = j <;> simp [updV, u2, hq, va_rf]
theorem g_aastF {n len j m : Nat} {i : Int32} (C : CX E cc own lev) (d : decode cc pc = .ok (.aastore, 1)) (hq : pc + 1 = q) (hl : ly n = .inr (2, len)) (hd : dm n = true) (hm : dm m = true) (hlm : ly m = .inl 0) (hi : i = nI j) (hj : j < len) (h31 : len < 2 ^ 31) (kk : G E cl sl ad dm a b (u2 r n j (some m)) q lo rest) : G E cl sl ad dm a b r pc lo (.ref (ad m) :: .int i :: .ref (ad n) :: rest) := g_aastK (t := 2) C d hq (fun _ => ce_f hl) rfl rfl hd hm hlm hi hj h31 kk
theorem g_aastP {n len j m : Nat} {i : Int32} (C : CX E cc own lev) (d : decode cc pc = .ok (.aastore, 1)) (hq : pc + 1 = q) (hl : ly n = .inr (3, len)) (hd : dm n = true) (hm : dm m = true) (hlm : ly m = .inl 2) (hi : i = nI j) (hj : j < len) (h31 : len < 2 ^ 31) (kk : G E cl sl ad dm a b (u2 r n j (some m)) q lo rest) : G E cl sl ad dm a b r pc lo (.ref (ad m) :: .int i :: .ref (ad n) :: rest) := g_aastK (t := 3) C d hq (fun _ => ce_p hl) rfl rfl hd hm hlm hi hj h31 kk
theorem g_aastFN {n len j : Nat} {i : Int32} (C : CX E cc own lev) (d : decode cc pc = .ok (.aastore, 1)) (hq : pc + 1 = q) (hl : ly n = .inr (2, len)) (hd : dm n = true) (hi : i = nI j) (hj : j < len) (h31 : len < 2 ^ 31) (kk : G E cl sl ad dm a b (u2 r n j none) q lo rest) : G E cl sl ad dm a b r pc lo (.null :: .int i :: .ref (ad n) :: rest) := fun H L ls hW hS hl' => by
  subst hq
  subst hi
  have hat := (hW.2.1 n hd).2
  rw [ce_f hl] at hat
  refine va_WaastN (C := RX0) C.1 C.2.1 hat ((C.2.2.2.2.2.1.2 2 _ rfl).1 len (fun j => va_rf ((r n j).map ad))) (fun q => by cases q) (by show ¬ (_ ∨ (arrV _ _ _).slots.size ≤ _); rw [arrV_size]; exact vp_in_nI hj h31) rfl rfl d fun H1 e z oq => ?_
  refine kk H1 _ ls (hW.st hd z oq ?_ (fun i hi => ⟨rfl, rfl, (u2_n hi).symm⟩)) (hS.put z oq (hW.2.1 n hd).1) hl'
  rw [ce_f hl]
  show H1[ad n]? = some (vp_cell _ _)
  rw [e, nI_clamp (by omega), vp_cell_q, vp_cell_q, arrV_store]
  congr 2
  funext q
  by_cases hq : q = j <;> simp [updV, u2, hq, va_rf]
end GH
end
section
/-! contracts, calls, ends -/
abbrev PO : Type := Option Value → (Nat → Nat) → (Nat → Bool) → (Nat → Nat → Int32) → (Nat → Nat → Int64) → (Nat → Nat → Option Nat) → Prop
def QP (g : GM) (bs : Nat) (P : PO) : Array Value → State → Outcome → State → Prop := fun _ st oc t => (∃ (v : Option Value) (ad : Nat → Nat) (dm : Nat → Bool) (a : Nat → Nat → Int32) (b : Nat → Nat → Int64) (r : Nat → Nat → Option Nat), oc = .returned v ∧ P v ad dm a b r ∧ Wd g bs ad dm a b r t.heap) ∧ va_F (fun q => bs ≤ q) st t
def PC (g : GM) (bs : Nat) (av : List Value) (ad : Nat → Nat) (dm : Nat → Bool) (a : Nat → Nat → Int32) (b : Nat → Nat → Int64) (r : Nat → Nat → Option Nat) : Array Value → State → Prop := va_Pc av (fun U => Wd g bs ad dm a b r U.heap ∧ va_K g.1 vwCl (tysG g) U)
theorem PC_blind {g : GM} {bs : Nat} {av : List Value} {ad : Nat → Nat} {dm : Nat → Bool} {a : Nat → Nat → Int32} {b : Nat → Nat → Int64} {r : Nat → Nat → Option Nat} : FrameBlind (PC g bs av ad dm a b r) := fun _ U f mk h => ⟨h.1, h.2.1, va_K.moved (u := U) (U := U.calling f mk _) (Vm.Alike.refl U.vm) h.2.2⟩
/-- a method's contract at one start -/
def MT (g : GM) (bs : Nat) (l : Launch) (y : MethodName) (cc : ByteArray) (nL : Nat) (ret : Option FieldType) (lev mc ms : Nat) (av : List Value) (ad : Nat → Nat) (dm : Nat → Bool) (a : Nat → Nat → Int32) (b : Nat → Nat → Int64) (r : Nat → Nat → Option Nat) (P : PO) : Prop :=
  Met l y (.code y cc nL ret :: gd) { frames := lev, cells := mc, slots := ms, locals := 40 * lev } (PC g bs av ad dm a b r) (QP g bs P) mc ms (fun q => bs ≤ q)
/-- an exact end -/
def PX (v : Option Value) (ad : Nat → Nat) (dm : Nat → Bool) (a : Nat → Nat → Int32) (b : Nat → Nat → Int64) (r : Nat → Nat → Option Nat) : PO := fun v0 ad0 dm0 a0 b0 r0 => v0 = v ∧ ad0 = ad ∧ dm0 = dm ∧ a0 = a ∧ b0 = b ∧ r0 = r
theorem px {v v0 : Option Value} {ad : Nat → Nat} {dm : Nat → Bool} {a : Nat → Nat → Int32} {b : Nat → Nat → Int64} {r : Nat → Nat → Option Nat} (h : v0 = v) : PX v ad dm a b r v0 ad dm a b r := ⟨h, rfl, rfl, rfl, rfl, rfl⟩
theorem pxi {x y : Int32} {ad : Nat → Nat} {dm : Nat → Bool} {a : Nat → Nat → Int32} {b : Nat → Nat → Int64} {r : Nat → Nat → Option Nat} (h : x = y) : PX (some (.int y)) ad dm a b r (some (.int x)) ad dm a b r := px (by rw [h])
def RT (E : EN) (mc ms : Nat) (ret : Option FieldType) (P : PO) : Prop := eQ E = MQ (eW E) (QP (eG E) (eB E) P) (eA E) (eS E) mc ms (fun q => eB E ≤ q) ∧ (eH E).sig.returnType = ret ∧ (eH E).locks = false
theorem mt_of {g : GM} {bs : Nat} {l : Launch} {y : MethodName} {cc : ByteArray} {nL : Nat} {ret : Option FieldType} {lev mc ms : Nat} {av : List Value} {ad : Nat → Nat} {dm : Nat → Bool} {a : Nat → Nat → Int32} {b : Nat → Nat → Int64} {r : Nat → Nat → Option Nat} {P : PO} (hy : plainName y.cls = true) (lo : List (Option Value)) (hlo : las 0 lo = lv_args 0 av) (hlen : (lg_sl av).length ≤ nL)
    (body : ∀ E : EN, eG E = g → eB E = bs → eL E = l → eN E = nL → CX E cc y.cls lev → RT E mc ms ret P → (eR E).cells = mc → (eR E).slots = ms → (eH E).name = y.name → G E 0 0 ad dm a b r 0 lo []) : MT g bs l y cc nL ret lev mc ms av ad dm a b r P := by
  refine Met.ofW (cc := cc) (maxL := nL) (ret := ret) hy rfl ?_
  intro p e s m args below meth c s₁ B hml hv
  obtain ⟨rfl, hW, hK⟩ := hv
  have hts := atoms_spec (ws := .code y cc nL ret :: gd) B.pre
  have hbody := body (g, bs, (p, l, e, { frames := lev, cells := mc, slots := ms, locals := 40 * lev }, s, m, av.toArray, below, meth, c), nL, MQ below (QP g bs P) av.toArray s mc ms (fun q => bs ≤ q)) rfl rfl rfl rfl ⟨B.exec, B.bytes, hml, findClass_of_methodNamed B.named, fun w hw => hts w (List.mem_cons_of_mem _ hw), hK, Nat.le_refl _, Nat.le_refl _⟩ ⟨rfl, B.returns, B.notSynchronized⟩ rfl rfl (name_of_methodNamed B.named B.method).1
  have hl := lv_entry av (n := nL) hlen
  rw [← hlo] at hl
  rw [lg_entry_eq]
  exact hbody s.heap [] _ hW va_S.rf hl
def W0 (y : MethodName) (cy : ByteArray) (nLy : Nat) (ret : Option FieldType) (n : Nat) : Prop := Cond.initialized y.cls ∈ gd ∧ Cond.code y cy nLy ret ∈ gd ∧ (y.cls ≠ "java/lang/invoke/MethodHandle" ∧ y.cls ≠ "java/lang/invoke/VarHandle" ∧ (parseMethodDescriptor y.desc).map (fun d => d.parameters.length) = some n) ∧ nLy ≤ 21
def WV (own : String) (idx : Nat) (y : MethodName) (cy : ByteArray) (nLy : Nat) (ret : Option FieldType) (n ci : Nat) : Prop := W0 y cy nLy ret n ∧ Cond.methodLink own idx y ∈ gd ∧ Cond.instanceMethod y ∈ gd ∧ Cond.selects y.cls y y ∈ gd ∧ ∃ (T : u_T) (N : Nat), vwCl[ci]? = some (y.cls, T, N)
def WS (own : String) (idx : Nat) (y : MethodName) (cy : ByteArray) (nLy : Nat) (ret : Option FieldType) (n : Nat) : Prop := W0 y cy nLy ret n ∧ Cond.methodLink own idx y ∈ gd ∧ Cond.static y ∈ gd ∧ y.cls = own
def WI (own : String) (idx : Nat) (y : MethodName) (cy : ByteArray) (nLy : Nat) (n : Nat) : Prop := W0 y cy nLy none n ∧ Cond.methodLink own idx y ∈ gd ∧ Cond.instanceMethod y ∈ gd ∧ y.name = "<init>"
theorem good_sub {ws : List Cond} (h : ∀ w ∈ ws, w ∈ gd) : GoodIn gd ws := fun w hw => ⟨h w hw, gd_good w (h w hw)⟩
theorem in_cons {w0 : Cond} (h : w0 ∈ gd) : ∀ w ∈ w0 :: gd, w ∈ gd := fun w hw => (List.mem_cons.mp hw).elim (fun e => e ▸ h) id
section GC
variable {E : EN} {cc : ByteArray} {own : String} {lev cl sl : Nat} {ad : Nat → Nat} {dm : Nat → Bool} {a : Nat → Nat → Int32} {b : Nat → Nat → Int64} {r : Nat → Nat → Option Nat} {pc q : Nat} {lo : List (Option Value)} {rest : List Value}
/-- behind a call -/
theorem g_back {st : List Value} {mc ms : Nat} {P : PO} {x : Array Value} (hS9 : ∀ H locs ls, Wd (eG E) (eB E) ad dm a b r H → lh ls (eN E) lo → va_Run E.2.2.1.1 (eL E) E.2.2.1.2.2.1 (eR E) (eS E) (eM E) (eA E) (eW E) (eH E) (eC E) H locs cl sl mc ms (F0 (eM E) pc ls st) rest (QP (eG E) (eB E) P x) (fun q => eB E ≤ q)) (hq : pc + 3 = q)
    (kk : ∀ v ad' dm' a' b' r', P v ad' dm' a' b' r' → G E (cl + mc) (sl + ms) ad' dm' a' b' r' q lo (v.toList ++ rest)) : G E cl sl ad dm a b r pc lo st := fun H L ls hW hS hl T hT X => by
  subst hq
  obtain ⟨v, st₀, t, T', L', h0, X', hL, e1, e2, ⟨⟨v', ad', dm', a', b', r', hv, hP, hWt⟩, hz, hk⟩, st⟩ := hS9 H L ls hW hl T hT X
  cases hv
  rw [h0] at hz hk
  obtain ⟨t2, a1, b1⟩ := kk v ad' dm' a' b' r' hP T'.heap (L ++ L') ls (by rw [e1]; exact hWt) ⟨Nat.le_trans hS.1 (by rw [e1]; exact hz), fun q h1 h2 => by rw [e1, hk q (Nat.lt_of_lt_of_le h1 hS.1) h2]; exact hS.2.1 q h1 h2, fun q hq => by
      rcases List.mem_append.mp hq with h | h
      · exact hS.2.2 q h
      · exact hL q h⟩ hl T' rfl X'
  exact ⟨t2, st t2 a1, b1⟩
theorem g_callV {idx nLy n ci nm lev' mc ms : Nat} {y : MethodName} {cy : ByteArray} {ret : Option FieldType} {As st : List Value} {P : PO} (C : CX E cc own lev) (w : WV own idx y cy nLy ret n ci) (hM : MT (eG E) (eB E) (eL E) y cy nLy ret lev' mc ms (.ref (ad nm) :: As) ad dm a b r P) (hlev : lev' < lev) (hl : ly nm = .inl ci) (hd : dm nm = true) (d : decode cc pc = .ok (.invokevirtual idx, 3)) (hq : pc + 3 = q) (hn : As.length = n) (hst : st = As.reverse ++ .ref (ad nm) :: rest) (hr : (rest.map fun v => v.category).sum ≤ 8) (hcs : cl + mc ≤ (eR E).cells ∧ sl + ms ≤ (eR E).slots)
    (kk : ∀ v ad' dm' a' b' r', P v ad' dm' a' b' r' → G E (cl + mc) (sl + ms) ad' dm' a' b' r' q lo (v.toList ++ rest)) : G E cl sl ad dm a b r pc lo st := by
  obtain ⟨⟨w1, w2, w3, w4⟩, w5, w6, w7, T, N, w8⟩ := w
  obtain ⟨hx, hb, hml, hown, hts, hK, hf, hlc⟩ := C
  subst hst
  refine g_back (x := (Value.ref (ad nm) :: As).toArray) (fun H L ls hW hl' => ?_) hq kk
  have hat := (hW.2.1 nm hd).2
  rw [ce_o hl] at hat
  obtain ⟨q', g0, cell, g1, g2, g3, -⟩ := hat
  exact va_runV (As := As) (rest := rest) (b := ad nm) (C := y.cls) ⟨hx, hb, hml, hown, hts⟩ hM (cwV n hts (good_sub (by
    intro z hz
    unfold wsV at hz
    rcases List.mem_append.mp hz with hz | hz
    · simp at hz
      rcases hz with rfl | rfl | rfl | rfl
      · exact w5
      · exact w6
      · exact w7
      · exact w1
    · exact in_cons w2 z hz)) rfl rfl rfl ⟨rfl, w3⟩ (by constructor <;> dsimp only <;> omega)) ⟨PC_blind, ⟨cell, g1, by rw [g3]; rfl, by rw [g2]; exact (hK.1 ci _ w8).2.1⟩, fun U hU hWm => ⟨rfl, by rw [hU]; exact hW, va_K.moved hWm.alike hK⟩⟩ rfl hn hl'.1 rfl (lv_room hr) d hcs
theorem g_callS {idx nLy n lev' mc ms : Nat} {y : MethodName} {cy : ByteArray} {ret : Option FieldType} {As st : List Value} {P : PO} (C : CX E cc own lev) (w : WS own idx y cy nLy ret n) (hM : MT (eG E) (eB E) (eL E) y cy nLy ret lev' mc ms As ad dm a b r P) (hlev : lev' < lev) (d : decode cc pc = .ok (.invokestatic idx, 3)) (hq : pc + 3 = q) (hn : As.length = n) (hst : st = As.reverse ++ rest) (hr : (rest.map fun v => v.category).sum ≤ 8) (hcs : cl + mc ≤ (eR E).cells ∧ sl + ms ≤ (eR E).slots)
    (kk : ∀ v ad' dm' a' b' r', P v ad' dm' a' b' r' → G E (cl + mc) (sl + ms) ad' dm' a' b' r' q lo (v.toList ++ rest)) : G E cl sl ad dm a b r pc lo st := by
  obtain ⟨⟨w1, w2, w3, w4⟩, w5, w6, w7⟩ := w
  obtain ⟨hx, hb, hml, hown, hts, hK, hf, hlc⟩ := C
  subst hst
  refine g_back (x := As.toArray) (fun H L ls hW hl' => ?_) hq kk
  exact va_runS (As := As) (rest := rest) ⟨hx, hb, hml, hown, hts⟩ hM (cwS n hts (good_sub (by
    intro z hz
    unfold wsS at hz
    rcases List.mem_append.mp hz with hz | hz
    · simp at hz
      rcases hz with rfl | rfl | rfl
      · exact w5
      · exact w6
      · rw [← w7]; exact w1
    · exact in_cons w2 z hz)) rfl rfl rfl ⟨w7, w3⟩ (by constructor <;> dsimp only <;> omega)) ⟨PC_blind, fun U hU hWm => ⟨rfl, by rw [hU]; exact hW, va_K.moved hWm.alike hK⟩⟩ rfl hn hl'.1 rfl (lv_room hr) d hcs
theorem g_callI {idx nLy n lev' mc ms bb : Nat} {y : MethodName} {cy : ByteArray} {As st : List Value} {P : PO} (C : CX E cc own lev) (w : WI own idx y cy nLy n) (hM : MT (eG E) (eB E) (eL E) y cy nLy none lev' mc ms (.ref bb :: As) ad dm a b r P) (hlev : lev' < lev) (d : decode cc pc = .ok (.invokespecial idx, 3)) (hq : pc + 3 = q) (hn : As.length = n) (hst : st = As.reverse ++ .ref bb :: rest) (hr : (rest.map fun v => v.category).sum ≤ 8) (hcs : cl + mc ≤ (eR E).cells ∧ sl + ms ≤ (eR E).slots)
    (kk : ∀ v ad' dm' a' b' r', P v ad' dm' a' b' r' → G E (cl + mc) (sl + ms) ad' dm' a' b' r' q lo (v.toList ++ rest)) : G E cl sl ad dm a b r pc lo st := by
  obtain ⟨⟨w1, w2, w3, w4⟩, w5, w6, w7⟩ := w
  obtain ⟨hx, hb, hml, hown, hts, hK, hf, hlc⟩ := C
  subst hst
  refine g_back (x := (Value.ref bb :: As).toArray) (fun H L ls hW hl' => ?_) hq kk
  exact va_runI (As := As) (rest := rest) (b := bb) ⟨hx, hb, hml, hown, hts⟩ hM (cwI n hts (good_sub (in_cons w2)) rfl rfl rfl (hts _ w1) (hts _ w5) (hts _ w6) w7 w3 (by constructor <;> dsimp only <;> omega)) ⟨PC_blind, fun U hU hWm => ⟨rfl, by rw [hU]; exact hW, va_K.moved hWm.alike hK⟩⟩ rfl hn hl'.1 rfl (lv_room hr) d hcs

theorem g_cv0i {idx nLy ci nm lev' : Nat} {y : MethodName} {cy : ByteArray} {ret : Option FieldType} {v : Value} {a' : Nat → Nat → Int32} {b' : Nat → Nat → Int64} {r' : Nat → Nat → Option Nat} (C : CX E cc own lev) (w : WV own idx y cy nLy ret 0 ci) (d : decode cc pc = .ok (.invokevirtual idx, 3)) (hq : pc + 3 = q) (hl : ly nm = .inl ci) (hd : dm nm = true) (hM : MT (eG E) (eB E) (eL E) y cy nLy ret lev' 0 0 [.ref (ad nm)] ad dm a b r (PX (some v) ad dm a' b' r')) (hlev : lev' < lev) (hr : (rest.map fun v => v.category).sum ≤ 8) (hcs : cl ≤ (eR E).cells ∧ sl ≤ (eR E).slots) (kk : G E cl sl ad dm a' b' r' q lo (v :: rest)) : G E cl sl ad dm a b r pc lo (.ref (ad nm) :: rest) :=
  g_callV C w hM hlev hl hd d hq rfl rfl hr hcs (fun v0 ad0 dm0 a0 b0 r0 h => by obtain ⟨rfl, rfl, rfl, rfl, rfl, rfl⟩ := h; exact kk)
theorem g_cv0v {idx nLy ci nm lev' : Nat} {y : MethodName} {cy : ByteArray} {ret : Option FieldType} {a' : Nat → Nat → Int32} {b' : Nat → Nat → Int64} {r' : Nat → Nat → Option Nat} (C : CX E cc own lev) (w : WV own idx y cy nLy ret 0 ci) (d : decode cc pc = .ok (.invokevirtual idx, 3)) (hq : pc + 3 = q) (hl : ly nm = .inl ci) (hd : dm nm = true) (hM : MT (eG E) (eB E) (eL E) y cy nLy ret lev' 0 0 [.ref (ad nm)] ad dm a b r (PX none ad dm a' b' r')) (hlev : lev' < lev) (hr : (rest.map fun v => v.category).sum ≤ 8) (hcs : cl ≤ (eR E).cells ∧ sl ≤ (eR E).slots) (kk : G E cl sl ad dm a' b' r' q lo rest) : G E cl sl ad dm a b r pc lo (.ref (ad nm) :: rest) :=
  g_callV C w hM hlev hl hd d hq rfl rfl hr hcs (fun v0 ad0 dm0 a0 b0 r0 h => by obtain ⟨rfl, rfl, rfl, rfl, rfl, rfl⟩ := h; exact kk)
theorem g_cv0g {idx nLy ci nm lev' mc ms : Nat} {y : MethodName} {cy : ByteArray} {ret : Option FieldType} {P : PO} (C : CX E cc own lev) (w : WV own idx y cy nLy ret 0 ci) (d : decode cc pc = .ok (.invokevirtual idx, 3)) (hq : pc + 3 = q) (hl : ly nm = .inl ci) (hd : dm nm = true) (hM : MT (eG E) (eB E) (eL E) y cy nLy ret lev' mc ms [.ref (ad nm)] ad dm a b r P) (hlev : lev' < lev) (hr : (rest.map fun v => v.category).sum ≤ 8) (hcs : cl + mc ≤ (eR E).cells ∧ sl + ms ≤ (eR E).slots) (kk : ∀ v ad' dm' a' b' r', P v ad' dm' a' b' r' → G E (cl + mc) (sl + ms) ad' dm' a' b' r' q lo (v.toList ++ rest)) : G E cl sl ad dm a b r pc lo (.ref (ad nm) :: rest) :=
  g_callV C w hM hlev hl hd d hq rfl rfl hr hcs kk
theorem g_cs0i {idx nLy lev' : Nat} {y : MethodName} {cy : ByteArray} {ret : Option FieldType} {v : Value} {a' : Nat → Nat → Int32} {b' : Nat → Nat → Int64} {r' : Nat → Nat → Option Nat} (C : CX E cc own lev) (w : WS own idx y cy nLy ret 0) (d : decode cc pc = .ok (.invokestatic idx, 3)) (hq : pc + 3 = q) (hM : MT (eG E) (eB E) (eL E) y cy nLy ret lev' 0 0 [] ad dm a b r (PX (some v) ad dm a' b' r')) (hlev : lev' < lev) (hr : (rest.map fun v => v.category).sum ≤ 8) (hcs : cl ≤ (eR E).cells ∧ sl ≤ (eR E).slots) (kk : G E cl sl ad dm a' b' r' q lo (v :: rest)) : G E cl sl ad dm a b r pc lo (rest) :=
  g_callS C w hM hlev d hq rfl rfl hr hcs (fun v0 ad0 dm0 a0 b0 r0 h => by obtain ⟨rfl, rfl, rfl, rfl, rfl, rfl⟩ := h; exact kk)
theorem g_ci0g {idx nLy nm lev' mc ms : Nat} {y : MethodName} {cy : ByteArray} {P : PO} (C : CX E cc own lev) (w : WI own idx y cy nLy 0) (d : decode cc pc = .ok (.invokespecial idx, 3)) (hq : pc + 3 = q) (hM : MT (eG E) (eB E) (eL E) y cy nLy none lev' mc ms [.ref (ad nm)] ad dm a b r P) (hlev : lev' < lev) (hr : (rest.map fun v => v.category).sum ≤ 8) (hcs : cl + mc ≤ (eR E).cells ∧ sl + ms ≤ (eR E).slots) (kk : ∀ v ad' dm' a' b' r', P v ad' dm' a' b' r' → G E (cl + mc) (sl + ms) ad' dm' a' b' r' q lo (v.toList ++ rest)) : G E cl sl ad dm a b r pc lo (.ref (ad nm) :: rest) :=
  g_callI C w hM hlev d hq rfl rfl hr hcs kk
theorem g_cv1i {idx nLy ci nm lev' : Nat} {y : MethodName} {cy : ByteArray} {ret : Option FieldType} {x1 : Value} {v : Value} {a' : Nat → Nat → Int32} {b' : Nat → Nat → Int64} {r' : Nat → Nat → Option Nat} (C : CX E cc own lev) (w : WV own idx y cy nLy ret 1 ci) (d : decode cc pc = .ok (.invokevirtual idx, 3)) (hq : pc + 3 = q) (hl : ly nm = .inl ci) (hd : dm nm = true) (hM : MT (eG E) (eB E) (eL E) y cy nLy ret lev' 0 0 [.ref (ad nm), x1] ad dm a b r (PX (some v) ad dm a' b' r')) (hlev : lev' < lev) (hr : (rest.map fun v => v.category).sum ≤ 8) (hcs : cl ≤ (eR E).cells ∧ sl ≤ (eR E).slots) (kk : G E cl sl ad dm a' b' r' q lo (v :: rest)) : G E cl sl ad dm a b r pc lo (x1 :: .ref (ad nm) :: rest) :=
  g_callV C w hM hlev hl hd d hq rfl rfl hr hcs (fun v0 ad0 dm0 a0 b0 r0 h => by obtain ⟨rfl, rfl, rfl, rfl, rfl, rfl⟩ := h; exact kk)
theorem g_cv1v {idx nLy ci nm lev' : Nat} {y : MethodName} {cy : ByteArray} {ret : Option FieldType} {x1 : Value} {a' : Nat → Nat → Int32} {b' : Nat → Nat → Int64} {r' : Nat → Nat → Option Nat} (C : CX E cc own lev) (w : WV own idx y cy nLy ret 1 ci) (d : decode cc pc = .ok (.invokevirtual idx, 3)) (hq : pc + 3 = q) (hl : ly nm = .inl ci) (hd : dm nm = true) (hM : MT (eG E) (eB E) (eL E) y cy nLy ret lev' 0 0 [.ref (ad nm), x1] ad dm a b r (PX none ad dm a' b' r')) (hlev : lev' < lev) (hr : (rest.map fun v => v.category).sum ≤ 8) (hcs : cl ≤ (eR E).cells ∧ sl ≤ (eR E).slots) (kk : G E cl sl ad dm a' b' r' q lo rest) : G E cl sl ad dm a b r pc lo (x1 :: .ref (ad nm) :: rest) :=
  g_callV C w hM hlev hl hd d hq rfl rfl hr hcs (fun v0 ad0 dm0 a0 b0 r0 h => by obtain ⟨rfl, rfl, rfl, rfl, rfl, rfl⟩ := h; exact kk)
theorem g_cv1g {idx nLy ci nm lev' mc ms : Nat} {y : MethodName} {cy : ByteArray} {ret : Option FieldType} {x1 : Value} {P : PO} (C : CX E cc own lev) (w : WV own idx y cy nLy ret 1 ci) (d : decode cc pc = .ok (.invokevirtual idx, 3)) (hq : pc + 3 = q) (hl : ly nm = .inl ci) (hd : dm nm = true) (hM : MT (eG E) (eB E) (eL E) y cy nLy ret lev' mc ms [.ref (ad nm), x1] ad dm a b r P) (hlev : lev' < lev) (hr : (rest.map fun v => v.category).sum ≤ 8) (hcs : cl + mc ≤ (eR E).cells ∧ sl + ms ≤ (eR E).slots) (kk : ∀ v ad' dm' a' b' r', P v ad' dm' a' b' r' → G E (cl + mc) (sl + ms) ad' dm' a' b' r' q lo (v.toList ++ rest)) : G E cl sl ad dm a b r pc lo (x1 :: .ref (ad nm) :: rest) :=
  g_callV C w hM hlev hl hd d hq rfl rfl hr hcs kk
theorem g_cs1i {idx nLy lev' : Nat} {y : MethodName} {cy : ByteArray} {ret : Option FieldType} {x1 : Value} {v : Value} {a' : Nat → Nat → Int32} {b' : Nat → Nat → Int64} {r' : Nat → Nat → Option Nat} (C : CX E cc own lev) (w : WS own idx y cy nLy ret 1) (d : decode cc pc = .ok (.invokestatic idx, 3)) (hq : pc + 3 = q) (hM : MT (eG E) (eB E) (eL E) y cy nLy ret lev' 0 0 [x1] ad dm a b r (PX (some v) ad dm a' b' r')) (hlev : lev' < lev) (hr : (rest.map fun v => v.category).sum ≤ 8) (hcs : cl ≤ (eR E).cells ∧ sl ≤ (eR E).slots) (kk : G E cl sl ad dm a' b' r' q lo (v :: rest)) : G E cl sl ad dm a b r pc lo (x1 :: rest) :=
  g_callS C w hM hlev d hq rfl rfl hr hcs (fun v0 ad0 dm0 a0 b0 r0 h => by obtain ⟨rfl, rfl, rfl, rfl, rfl, rfl⟩ := h; exact kk)
theorem g_ci1g {idx nLy nm lev' mc ms : Nat} {y : MethodName} {cy : ByteArray} {x1 : Value} {P : PO} (C : CX E cc own lev) (w : WI own idx y cy nLy 1) (d : decode cc pc = .ok (.invokespecial idx, 3)) (hq : pc + 3 = q) (hM : MT (eG E) (eB E) (eL E) y cy nLy none lev' mc ms [.ref (ad nm), x1] ad dm a b r P) (hlev : lev' < lev) (hr : (rest.map fun v => v.category).sum ≤ 8) (hcs : cl + mc ≤ (eR E).cells ∧ sl + ms ≤ (eR E).slots) (kk : ∀ v ad' dm' a' b' r', P v ad' dm' a' b' r' → G E (cl + mc) (sl + ms) ad' dm' a' b' r' q lo (v.toList ++ rest)) : G E cl sl ad dm a b r pc lo (x1 :: .ref (ad nm) :: rest) :=
  g_callI C w hM hlev d hq rfl rfl hr hcs kk
theorem g_cv2i {idx nLy ci nm lev' : Nat} {y : MethodName} {cy : ByteArray} {ret : Option FieldType} {x1 x2 : Value} {v : Value} {a' : Nat → Nat → Int32} {b' : Nat → Nat → Int64} {r' : Nat → Nat → Option Nat} (C : CX E cc own lev) (w : WV own idx y cy nLy ret 2 ci) (d : decode cc pc = .ok (.invokevirtual idx, 3)) (hq : pc + 3 = q) (hl : ly nm = .inl ci) (hd : dm nm = true) (hM : MT (eG E) (eB E) (eL E) y cy nLy ret lev' 0 0 [.ref (ad nm), x1, x2] ad dm a b r (PX (some v) ad dm a' b' r')) (hlev : lev' < lev) (hr : (rest.map fun v => v.category).sum ≤ 8) (hcs : cl ≤ (eR E).cells ∧ sl ≤ (eR E).slots) (kk : G E cl sl ad dm a' b' r' q lo (v :: rest)) : G E cl sl ad dm a b r pc lo (x2 :: x1 :: .ref (ad nm) :: rest) :=
  g_callV C w hM hlev hl hd d hq rfl rfl hr hcs (fun v0 ad0 dm0 a0 b0 r0 h => by obtain ⟨rfl, rfl, rfl, rfl, rfl, rfl⟩ := h; exact kk)
theorem g_cv2v {idx nLy ci nm lev' : Nat} {y : MethodName} {cy : ByteArray} {ret : Option FieldType} {x1 x2 : Value} {a' : Nat → Nat → Int32} {b' : Nat → Nat → Int64} {r' : Nat → Nat → Option Nat} (C : CX E cc own lev) (w : WV own idx y cy nLy ret 2 ci) (d : decode cc pc = .ok (.invokevirtual idx, 3)) (hq : pc + 3 = q) (hl : ly nm = .inl ci) (hd : dm nm = true) (hM : MT (eG E) (eB E) (eL E) y cy nLy ret lev' 0 0 [.ref (ad nm), x1, x2] ad dm a b r (PX none ad dm a' b' r')) (hlev : lev' < lev) (hr : (rest.map fun v => v.category).sum ≤ 8) (hcs : cl ≤ (eR E).cells ∧ sl ≤ (eR E).slots) (kk : G E cl sl ad dm a' b' r' q lo rest) : G E cl sl ad dm a b r pc lo (x2 :: x1 :: .ref (ad nm) :: rest) :=
  g_callV C w hM hlev hl hd d hq rfl rfl hr hcs (fun v0 ad0 dm0 a0 b0 r0 h => by obtain ⟨rfl, rfl, rfl, rfl, rfl, rfl⟩ := h; exact kk)
theorem g_cv2g {idx nLy ci nm lev' mc ms : Nat} {y : MethodName} {cy : ByteArray} {ret : Option FieldType} {x1 x2 : Value} {P : PO} (C : CX E cc own lev) (w : WV own idx y cy nLy ret 2 ci) (d : decode cc pc = .ok (.invokevirtual idx, 3)) (hq : pc + 3 = q) (hl : ly nm = .inl ci) (hd : dm nm = true) (hM : MT (eG E) (eB E) (eL E) y cy nLy ret lev' mc ms [.ref (ad nm), x1, x2] ad dm a b r P) (hlev : lev' < lev) (hr : (rest.map fun v => v.category).sum ≤ 8) (hcs : cl + mc ≤ (eR E).cells ∧ sl + ms ≤ (eR E).slots) (kk : ∀ v ad' dm' a' b' r', P v ad' dm' a' b' r' → G E (cl + mc) (sl + ms) ad' dm' a' b' r' q lo (v.toList ++ rest)) : G E cl sl ad dm a b r pc lo (x2 :: x1 :: .ref (ad nm) :: rest) :=
  g_callV C w hM hlev hl hd d hq rfl rfl hr hcs kk
theorem g_cs2i {idx nLy lev' : Nat} {y : MethodName} {cy : ByteArray} {ret : Option FieldType} {x1 x2 : Value} {v : Value} {a' : Nat → Nat → Int32} {b' : Nat → Nat → Int64} {r' : Nat → Nat → Option Nat} (C : CX E cc own lev) (w : WS own idx y cy nLy ret 2) (d : decode cc pc = .ok (.invokestatic idx, 3)) (hq : pc + 3 = q) (hM : MT (eG E) (eB E) (eL E) y cy nLy ret lev' 0 0 [x1, x2] ad dm a b r (PX (some v) ad dm a' b' r')) (hlev : lev' < lev) (hr : (rest.map fun v => v.category).sum ≤ 8) (hcs : cl ≤ (eR E).cells ∧ sl ≤ (eR E).slots) (kk : G E cl sl ad dm a' b' r' q lo (v :: rest)) : G E cl sl ad dm a b r pc lo (x2 :: x1 :: rest) :=
  g_callS C w hM hlev d hq rfl rfl hr hcs (fun v0 ad0 dm0 a0 b0 r0 h => by obtain ⟨rfl, rfl, rfl, rfl, rfl, rfl⟩ := h; exact kk)
theorem g_ci2g {idx nLy nm lev' mc ms : Nat} {y : MethodName} {cy : ByteArray} {x1 x2 : Value} {P : PO} (C : CX E cc own lev) (w : WI own idx y cy nLy 2) (d : decode cc pc = .ok (.invokespecial idx, 3)) (hq : pc + 3 = q) (hM : MT (eG E) (eB E) (eL E) y cy nLy none lev' mc ms [.ref (ad nm), x1, x2] ad dm a b r P) (hlev : lev' < lev) (hr : (rest.map fun v => v.category).sum ≤ 8) (hcs : cl + mc ≤ (eR E).cells ∧ sl + ms ≤ (eR E).slots) (kk : ∀ v ad' dm' a' b' r', P v ad' dm' a' b' r' → G E (cl + mc) (sl + ms) ad' dm' a' b' r' q lo (v.toList ++ rest)) : G E cl sl ad dm a b r pc lo (x2 :: x1 :: .ref (ad nm) :: rest) :=
  g_callI C w hM hlev d hq rfl rfl hr hcs kk
theorem g_cv3i {idx nLy ci nm lev' : Nat} {y : MethodName} {cy : ByteArray} {ret : Option FieldType} {x1 x2 x3 : Value} {v : Value} {a' : Nat → Nat → Int32} {b' : Nat → Nat → Int64} {r' : Nat → Nat → Option Nat} (C : CX E cc own lev) (w : WV own idx y cy nLy ret 3 ci) (d : decode cc pc = .ok (.invokevirtual idx, 3)) (hq : pc + 3 = q) (hl : ly nm = .inl ci) (hd : dm nm = true) (hM : MT (eG E) (eB E) (eL E) y cy nLy ret lev' 0 0 [.ref (ad nm), x1, x2, x3] ad dm a b r (PX (some v) ad dm a' b' r')) (hlev : lev' < lev) (hr : (rest.map fun v => v.category).sum ≤ 8) (hcs : cl ≤ (eR E).cells ∧ sl ≤ (eR E).slots) (kk : G E cl sl ad dm a' b' r' q lo (v :: rest)) : G E cl sl ad dm a b r pc lo (x3 :: x2 :: x1 :: .ref (ad nm) :: rest) :=
  g_callV C w hM hlev hl hd d hq rfl rfl hr hcs (fun v0 ad0 dm0 a0 b0 r0 h => by obtain ⟨rfl, rfl, rfl, rfl, rfl, rfl⟩ := h; exact kk)
theorem g_cv3v {idx nLy ci nm lev' : Nat} {y : MethodName} {cy : ByteArray} {ret : Option FieldType} {x1 x2 x3 : Value} {a' : Nat → Nat → Int32} {b' : Nat → Nat → Int64} {r' : Nat → Nat → Option Nat} (C : CX E cc own lev) (w : WV own idx y cy nLy ret 3 ci) (d : decode cc pc = .ok (.invokevirtual idx, 3)) (hq : pc + 3 = q) (hl : ly nm = .inl ci) (hd : dm nm = true) (hM : MT (eG E) (eB E) (eL E) y cy nLy ret lev' 0 0 [.ref (ad nm), x1, x2, x3] ad dm a b r (PX none ad dm a' b' r')) (hlev : lev' < lev) (hr : (rest.map fun v => v.category).sum ≤ 8) (hcs : cl ≤ (eR E).cells ∧ sl ≤ (eR E).slots) (kk : G E cl sl ad dm a' b' r' q lo rest) : G E cl sl ad dm a b r pc lo (x3 :: x2 :: x1 :: .ref (ad nm) :: rest) :=
  g_callV C w hM hlev hl hd d hq rfl rfl hr hcs (fun v0 ad0 dm0 a0 b0 r0 h => by obtain ⟨rfl, rfl, rfl, rfl, rfl, rfl⟩ := h; exact kk)
theorem g_cv3g {idx nLy ci nm lev' mc ms : Nat} {y : MethodName} {cy : ByteArray} {ret : Option FieldType} {x1 x2 x3 : Value} {P : PO} (C : CX E cc own lev) (w : WV own idx y cy nLy ret 3 ci) (d : decode cc pc = .ok (.invokevirtual idx, 3)) (hq : pc + 3 = q) (hl : ly nm = .inl ci) (hd : dm nm = true) (hM : MT (eG E) (eB E) (eL E) y cy nLy ret lev' mc ms [.ref (ad nm), x1, x2, x3] ad dm a b r P) (hlev : lev' < lev) (hr : (rest.map fun v => v.category).sum ≤ 8) (hcs : cl + mc ≤ (eR E).cells ∧ sl + ms ≤ (eR E).slots) (kk : ∀ v ad' dm' a' b' r', P v ad' dm' a' b' r' → G E (cl + mc) (sl + ms) ad' dm' a' b' r' q lo (v.toList ++ rest)) : G E cl sl ad dm a b r pc lo (x3 :: x2 :: x1 :: .ref (ad nm) :: rest) :=
  g_callV C w hM hlev hl hd d hq rfl rfl hr hcs kk
theorem g_cs3i {idx nLy lev' : Nat} {y : MethodName} {cy : ByteArray} {ret : Option FieldType} {x1 x2 x3 : Value} {v : Value} {a' : Nat → Nat → Int32} {b' : Nat → Nat → Int64} {r' : Nat → Nat → Option Nat} (C : CX E cc own lev) (w : WS own idx y cy nLy ret 3) (d : decode cc pc = .ok (.invokestatic idx, 3)) (hq : pc + 3 = q) (hM : MT (eG E) (eB E) (eL E) y cy nLy ret lev' 0 0 [x1, x2, x3] ad dm a b r (PX (some v) ad dm a' b' r')) (hlev : lev' < lev) (hr : (rest.map fun v => v.category).sum ≤ 8) (hcs : cl ≤ (eR E).cells ∧ sl ≤ (eR E).slots) (kk : G E cl sl ad dm a' b' r' q lo (v :: rest)) : G E cl sl ad dm a b r pc lo (x3 :: x2 :: x1 :: rest) :=
  g_callS C w hM hlev d hq rfl rfl hr hcs (fun v0 ad0 dm0 a0 b0 r0 h => by obtain ⟨rfl, rfl, rfl, rfl, rfl, rfl⟩ := h; exact kk)
theorem g_ci3g {idx nLy nm lev' mc ms : Nat} {y : MethodName} {cy : ByteArray} {x1 x2 x3 : Value} {P : PO} (C : CX E cc own lev) (w : WI own idx y cy nLy 3) (d : decode cc pc = .ok (.invokespecial idx, 3)) (hq : pc + 3 = q) (hM : MT (eG E) (eB E) (eL E) y cy nLy none lev' mc ms [.ref (ad nm), x1, x2, x3] ad dm a b r P) (hlev : lev' < lev) (hr : (rest.map fun v => v.category).sum ≤ 8) (hcs : cl + mc ≤ (eR E).cells ∧ sl + ms ≤ (eR E).slots) (kk : ∀ v ad' dm' a' b' r', P v ad' dm' a' b' r' → G E (cl + mc) (sl + ms) ad' dm' a' b' r' q lo (v.toList ++ rest)) : G E cl sl ad dm a b r pc lo (x3 :: x2 :: x1 :: .ref (ad nm) :: rest) :=
  g_callI C w hM hlev d hq rfl rfl hr hcs kk
theorem g_cv4i {idx nLy ci nm lev' : Nat} {y : MethodName} {cy : ByteArray} {ret : Option FieldType} {x1 x2 x3 x4 : Value} {v : Value} {a' : Nat → Nat → Int32} {b' : Nat → Nat → Int64} {r' : Nat → Nat → Option Nat} (C : CX E cc own lev) (w : WV own idx y cy nLy ret 4 ci) (d : decode cc pc = .ok (.invokevirtual idx, 3)) (hq : pc + 3 = q) (hl : ly nm = .inl ci) (hd : dm nm = true) (hM : MT (eG E) (eB E) (eL E) y cy nLy ret lev' 0 0 [.ref (ad nm), x1, x2, x3, x4] ad dm a b r (PX (some v) ad dm a' b' r')) (hlev : lev' < lev) (hr : (rest.map fun v => v.category).sum ≤ 8) (hcs : cl ≤ (eR E).cells ∧ sl ≤ (eR E).slots) (kk : G E cl sl ad dm a' b' r' q lo (v :: rest)) : G E cl sl ad dm a b r pc lo (x4 :: x3 :: x2 :: x1 :: .ref (ad nm) :: rest) :=
  g_callV C w hM hlev hl hd d hq rfl rfl hr hcs (fun v0 ad0 dm0 a0 b0 r0 h => by obtain ⟨rfl, rfl, rfl, rfl, rfl, rfl⟩ := h; exact kk)
theorem g_cv4v {idx nLy ci nm lev' : Nat} {y : MethodName} {cy : ByteArray} {ret : Option FieldType} {x1 x2 x3 x4 : Value} {a' : Nat → Nat → Int32} {b' : Nat → Nat → Int64} {r' : Nat → Nat → Option Nat} (C : CX E cc own lev) (w : WV own idx y cy nLy ret 4 ci) (d : decode cc pc = .ok (.invokevirtual idx, 3)) (hq : pc + 3 = q) (hl : ly nm = .inl ci) (hd : dm nm = true) (hM : MT (eG E) (eB E) (eL E) y cy nLy ret lev' 0 0 [.ref (ad nm), x1, x2, x3, x4] ad dm a b r (PX none ad dm a' b' r')) (hlev : lev' < lev) (hr : (rest.map fun v => v.category).sum ≤ 8) (hcs : cl ≤ (eR E).cells ∧ sl ≤ (eR E).slots) (kk : G E cl sl ad dm a' b' r' q lo rest) : G E cl sl ad dm a b r pc lo (x4 :: x3 :: x2 :: x1 :: .ref (ad nm) :: rest) :=
  g_callV C w hM hlev hl hd d hq rfl rfl hr hcs (fun v0 ad0 dm0 a0 b0 r0 h => by obtain ⟨rfl, rfl, rfl, rfl, rfl, rfl⟩ := h; exact kk)
theorem g_cv4g {idx nLy ci nm lev' mc ms : Nat} {y : MethodName} {cy : ByteArray} {ret : Option FieldType} {x1 x2 x3 x4 : Value} {P : PO} (C : CX E cc own lev) (w : WV own idx y cy nLy ret 4 ci) (d : decode cc pc = .ok (.invokevirtual idx, 3)) (hq : pc + 3 = q) (hl : ly nm = .inl ci) (hd : dm nm = true) (hM : MT (eG E) (eB E) (eL E) y cy nLy ret lev' mc ms [.ref (ad nm), x1, x2, x3, x4] ad dm a b r P) (hlev : lev' < lev) (hr : (rest.map fun v => v.category).sum ≤ 8) (hcs : cl + mc ≤ (eR E).cells ∧ sl + ms ≤ (eR E).slots) (kk : ∀ v ad' dm' a' b' r', P v ad' dm' a' b' r' → G E (cl + mc) (sl + ms) ad' dm' a' b' r' q lo (v.toList ++ rest)) : G E cl sl ad dm a b r pc lo (x4 :: x3 :: x2 :: x1 :: .ref (ad nm) :: rest) :=
  g_callV C w hM hlev hl hd d hq rfl rfl hr hcs kk
theorem g_cs4i {idx nLy lev' : Nat} {y : MethodName} {cy : ByteArray} {ret : Option FieldType} {x1 x2 x3 x4 : Value} {v : Value} {a' : Nat → Nat → Int32} {b' : Nat → Nat → Int64} {r' : Nat → Nat → Option Nat} (C : CX E cc own lev) (w : WS own idx y cy nLy ret 4) (d : decode cc pc = .ok (.invokestatic idx, 3)) (hq : pc + 3 = q) (hM : MT (eG E) (eB E) (eL E) y cy nLy ret lev' 0 0 [x1, x2, x3, x4] ad dm a b r (PX (some v) ad dm a' b' r')) (hlev : lev' < lev) (hr : (rest.map fun v => v.category).sum ≤ 8) (hcs : cl ≤ (eR E).cells ∧ sl ≤ (eR E).slots) (kk : G E cl sl ad dm a' b' r' q lo (v :: rest)) : G E cl sl ad dm a b r pc lo (x4 :: x3 :: x2 :: x1 :: rest) :=
  g_callS C w hM hlev d hq rfl rfl hr hcs (fun v0 ad0 dm0 a0 b0 r0 h => by obtain ⟨rfl, rfl, rfl, rfl, rfl, rfl⟩ := h; exact kk)
theorem g_ci4g {idx nLy nm lev' mc ms : Nat} {y : MethodName} {cy : ByteArray} {x1 x2 x3 x4 : Value} {P : PO} (C : CX E cc own lev) (w : WI own idx y cy nLy 4) (d : decode cc pc = .ok (.invokespecial idx, 3)) (hq : pc + 3 = q) (hM : MT (eG E) (eB E) (eL E) y cy nLy none lev' mc ms [.ref (ad nm), x1, x2, x3, x4] ad dm a b r P) (hlev : lev' < lev) (hr : (rest.map fun v => v.category).sum ≤ 8) (hcs : cl + mc ≤ (eR E).cells ∧ sl + ms ≤ (eR E).slots) (kk : ∀ v ad' dm' a' b' r', P v ad' dm' a' b' r' → G E (cl + mc) (sl + ms) ad' dm' a' b' r' q lo (v.toList ++ rest)) : G E cl sl ad dm a b r pc lo (x4 :: x3 :: x2 :: x1 :: .ref (ad nm) :: rest) :=
  g_callI C w hM hlev d hq rfl rfl hr hcs kk
theorem g_cv5i {idx nLy ci nm lev' : Nat} {y : MethodName} {cy : ByteArray} {ret : Option FieldType} {x1 x2 x3 x4 x5 : Value} {v : Value} {a' : Nat → Nat → Int32} {b' : Nat → Nat → Int64} {r' : Nat → Nat → Option Nat} (C : CX E cc own lev) (w : WV own idx y cy nLy ret 5 ci) (d : decode cc pc = .ok (.invokevirtual idx, 3)) (hq : pc + 3 = q) (hl : ly nm = .inl ci) (hd : dm nm = true) (hM : MT (eG E) (eB E) (eL E) y cy nLy ret lev' 0 0 [.ref (ad nm), x1, x2, x3, x4, x5] ad dm a b r (PX (some v) ad dm a' b' r')) (hlev : lev' < lev) (hr : (rest.map fun v => v.category).sum ≤ 8) (hcs : cl ≤ (eR E).cells ∧ sl ≤ (eR E).slots) (kk : G E cl sl ad dm a' b' r' q lo (v :: rest)) : G E cl sl ad dm a b r pc lo (x5 :: x4 :: x3 :: x2 :: x1 :: .ref (ad nm) :: rest) :=
  g_callV C w hM hlev hl hd d hq rfl rfl hr hcs (fun v0 ad0 dm0 a0 b0 r0 h => by obtain ⟨rfl, rfl, rfl, rfl, rfl, rfl⟩ := h; exact kk)
theorem g_cv5v {idx nLy ci nm lev' : Nat} {y : MethodName} {cy : ByteArray} {ret : Option FieldType} {x1 x2 x3 x4 x5 : Value} {a' : Nat → Nat → Int32} {b' : Nat → Nat → Int64} {r' : Nat → Nat → Option Nat} (C : CX E cc own lev) (w : WV own idx y cy nLy ret 5 ci) (d : decode cc pc = .ok (.invokevirtual idx, 3)) (hq : pc + 3 = q) (hl : ly nm = .inl ci) (hd : dm nm = true) (hM : MT (eG E) (eB E) (eL E) y cy nLy ret lev' 0 0 [.ref (ad nm), x1, x2, x3, x4, x5] ad dm a b r (PX none ad dm a' b' r')) (hlev : lev' < lev) (hr : (rest.map fun v => v.category).sum ≤ 8) (hcs : cl ≤ (eR E).cells ∧ sl ≤ (eR E).slots) (kk : G E cl sl ad dm a' b' r' q lo rest) : G E cl sl ad dm a b r pc lo (x5 :: x4 :: x3 :: x2 :: x1 :: .ref (ad nm) :: rest) :=
  g_callV C w hM hlev hl hd d hq rfl rfl hr hcs (fun v0 ad0 dm0 a0 b0 r0 h => by obtain ⟨rfl, rfl, rfl, rfl, rfl, rfl⟩ := h; exact kk)
theorem g_cv5g {idx nLy ci nm lev' mc ms : Nat} {y : MethodName} {cy : ByteArray} {ret : Option FieldType} {x1 x2 x3 x4 x5 : Value} {P : PO} (C : CX E cc own lev) (w : WV own idx y cy nLy ret 5 ci) (d : decode cc pc = .ok (.invokevirtual idx, 3)) (hq : pc + 3 = q) (hl : ly nm = .inl ci) (hd : dm nm = true) (hM : MT (eG E) (eB E) (eL E) y cy nLy ret lev' mc ms [.ref (ad nm), x1, x2, x3, x4, x5] ad dm a b r P) (hlev : lev' < lev) (hr : (rest.map fun v => v.category).sum ≤ 8) (hcs : cl + mc ≤ (eR E).cells ∧ sl + ms ≤ (eR E).slots) (kk : ∀ v ad' dm' a' b' r', P v ad' dm' a' b' r' → G E (cl + mc) (sl + ms) ad' dm' a' b' r' q lo (v.toList ++ rest)) : G E cl sl ad dm a b r pc lo (x5 :: x4 :: x3 :: x2 :: x1 :: .ref (ad nm) :: rest) :=
  g_callV C w hM hlev hl hd d hq rfl rfl hr hcs kk
theorem g_cs5i {idx nLy lev' : Nat} {y : MethodName} {cy : ByteArray} {ret : Option FieldType} {x1 x2 x3 x4 x5 : Value} {v : Value} {a' : Nat → Nat → Int32} {b' : Nat → Nat → Int64} {r' : Nat → Nat → Option Nat} (C : CX E cc own lev) (w : WS own idx y cy nLy ret 5) (d : decode cc pc = .ok (.invokestatic idx, 3)) (hq : pc + 3 = q) (hM : MT (eG E) (eB E) (eL E) y cy nLy ret lev' 0 0 [x1, x2, x3, x4, x5] ad dm a b r (PX (some v) ad dm a' b' r')) (hlev : lev' < lev) (hr : (rest.map fun v => v.category).sum ≤ 8) (hcs : cl ≤ (eR E).cells ∧ sl ≤ (eR E).slots) (kk : G E cl sl ad dm a' b' r' q lo (v :: rest)) : G E cl sl ad dm a b r pc lo (x5 :: x4 :: x3 :: x2 :: x1 :: rest) :=
  g_callS C w hM hlev d hq rfl rfl hr hcs (fun v0 ad0 dm0 a0 b0 r0 h => by obtain ⟨rfl, rfl, rfl, rfl, rfl, rfl⟩ := h; exact kk)
theorem g_ci5g {idx nLy nm lev' mc ms : Nat} {y : MethodName} {cy : ByteArray} {x1 x2 x3 x4 x5 : Value} {P : PO} (C : CX E cc own lev) (w : WI own idx y cy nLy 5) (d : decode cc pc = .ok (.invokespecial idx, 3)) (hq : pc + 3 = q) (hM : MT (eG E) (eB E) (eL E) y cy nLy none lev' mc ms [.ref (ad nm), x1, x2, x3, x4, x5] ad dm a b r P) (hlev : lev' < lev) (hr : (rest.map fun v => v.category).sum ≤ 8) (hcs : cl + mc ≤ (eR E).cells ∧ sl + ms ≤ (eR E).slots) (kk : ∀ v ad' dm' a' b' r', P v ad' dm' a' b' r' → G E (cl + mc) (sl + ms) ad' dm' a' b' r' q lo (v.toList ++ rest)) : G E cl sl ad dm a b r pc lo (x5 :: x4 :: x3 :: x2 :: x1 :: .ref (ad nm) :: rest) :=
  g_callI C w hM hlev d hq rfl rfl hr hcs kk
theorem g_cv6i {idx nLy ci nm lev' : Nat} {y : MethodName} {cy : ByteArray} {ret : Option FieldType} {x1 x2 x3 x4 x5 x6 : Value} {v : Value} {a' : Nat → Nat → Int32} {b' : Nat → Nat → Int64} {r' : Nat → Nat → Option Nat} (C : CX E cc own lev) (w : WV own idx y cy nLy ret 6 ci) (d : decode cc pc = .ok (.invokevirtual idx, 3)) (hq : pc + 3 = q) (hl : ly nm = .inl ci) (hd : dm nm = true) (hM : MT (eG E) (eB E) (eL E) y cy nLy ret lev' 0 0 [.ref (ad nm), x1, x2, x3, x4, x5, x6] ad dm a b r (PX (some v) ad dm a' b' r')) (hlev : lev' < lev) (hr : (rest.map fun v => v.category).sum ≤ 8) (hcs : cl ≤ (eR E).cells ∧ sl ≤ (eR E).slots) (kk : G E cl sl ad dm a' b' r' q lo (v :: rest)) : G E cl sl ad dm a b r pc lo (x6 :: x5 :: x4 :: x3 :: x2 :: x1 :: .ref (ad nm) :: rest) :=
  g_callV C w hM hlev hl hd d hq rfl rfl hr hcs (fun v0 ad0 dm0 a0 b0 r0 h => by obtain ⟨rfl, rfl, rfl, rfl, rfl, rfl⟩ := h; exact kk)
theorem g_cv6v {idx nLy ci nm lev' : Nat} {y : MethodName} {cy : ByteArray} {ret : Option FieldType} {x1 x2 x3 x4 x5 x6 : Value} {a' : Nat → Nat → Int32} {b' : Nat → Nat → Int64} {r' : Nat → Nat → Option Nat} (C : CX E cc own lev) (w : WV own idx y cy nLy ret 6 ci) (d : decode cc pc = .ok (.invokevirtual idx, 3)) (hq : pc + 3 = q) (hl : ly nm = .inl ci) (hd : dm nm = true) (hM : MT (eG E) (eB E) (eL E) y cy nLy ret lev' 0 0 [.ref (ad nm), x1, x2, x3, x4, x5, x6] ad dm a b r (PX none ad dm a' b' r')) (hlev : lev' < lev) (hr : (rest.map fun v => v.category).sum ≤ 8) (hcs : cl ≤ (eR E).cells ∧ sl ≤ (eR E).slots) (kk : G E cl sl ad dm a' b' r' q lo rest) : G E cl sl ad dm a b r pc lo (x6 :: x5 :: x4 :: x3 :: x2 :: x1 :: .ref (ad nm) :: rest) :=
  g_callV C w hM hlev hl hd d hq rfl rfl hr hcs (fun v0 ad0 dm0 a0 b0 r0 h => by obtain ⟨rfl, rfl, rfl, rfl, rfl, rfl⟩ := h; exact kk)
theorem g_cv6g {idx nLy ci nm lev' mc ms : Nat} {y : MethodName} {cy : ByteArray} {ret : Option FieldType} {x1 x2 x3 x4 x5 x6 : Value} {P : PO} (C : CX E cc own lev) (w : WV own idx y cy nLy ret 6 ci) (d : decode cc pc = .ok (.invokevirtual idx, 3)) (hq : pc + 3 = q) (hl : ly nm = .inl ci) (hd : dm nm = true) (hM : MT (eG E) (eB E) (eL E) y cy nLy ret lev' mc ms [.ref (ad nm), x1, x2, x3, x4, x5, x6] ad dm a b r P) (hlev : lev' < lev) (hr : (rest.map fun v => v.category).sum ≤ 8) (hcs : cl + mc ≤ (eR E).cells ∧ sl + ms ≤ (eR E).slots) (kk : ∀ v ad' dm' a' b' r', P v ad' dm' a' b' r' → G E (cl + mc) (sl + ms) ad' dm' a' b' r' q lo (v.toList ++ rest)) : G E cl sl ad dm a b r pc lo (x6 :: x5 :: x4 :: x3 :: x2 :: x1 :: .ref (ad nm) :: rest) :=
  g_callV C w hM hlev hl hd d hq rfl rfl hr hcs kk
theorem g_cs6i {idx nLy lev' : Nat} {y : MethodName} {cy : ByteArray} {ret : Option FieldType} {x1 x2 x3 x4 x5 x6 : Value} {v : Value} {a' : Nat → Nat → Int32} {b' : Nat → Nat → Int64} {r' : Nat → Nat → Option Nat} (C : CX E cc own lev) (w : WS own idx y cy nLy ret 6) (d : decode cc pc = .ok (.invokestatic idx, 3)) (hq : pc + 3 = q) (hM : MT (eG E) (eB E) (eL E) y cy nLy ret lev' 0 0 [x1, x2, x3, x4, x5, x6] ad dm a b r (PX (some v) ad dm a' b' r')) (hlev : lev' < lev) (hr : (rest.map fun v => v.category).sum ≤ 8) (hcs : cl ≤ (eR E).cells ∧ sl ≤ (eR E).slots) (kk : G E cl sl ad dm a' b' r' q lo (v :: rest)) : G E cl sl ad dm a b r pc lo (x6 :: x5 :: x4 :: x3 :: x2 :: x1 :: rest) :=
  g_callS C w hM hlev d hq rfl rfl hr hcs (fun v0 ad0 dm0 a0 b0 r0 h => by obtain ⟨rfl, rfl, rfl, rfl, rfl, rfl⟩ := h; exact kk)
theorem g_ci6g {idx nLy nm lev' mc ms : Nat} {y : MethodName} {cy : ByteArray} {x1 x2 x3 x4 x5 x6 : Value} {P : PO} (C : CX E cc own lev) (w : WI own idx y cy nLy 6) (d : decode cc pc = .ok (.invokespecial idx, 3)) (hq : pc + 3 = q) (hM : MT (eG E) (eB E) (eL E) y cy nLy none lev' mc ms [.ref (ad nm), x1, x2, x3, x4, x5, x6] ad dm a b r P) (hlev : lev' < lev) (hr : (rest.map fun v => v.category).sum ≤ 8) (hcs : cl + mc ≤ (eR E).cells ∧ sl + ms ≤ (eR E).slots) (kk : ∀ v ad' dm' a' b' r', P v ad' dm' a' b' r' → G E (cl + mc) (sl + ms) ad' dm' a' b' r' q lo (v.toList ++ rest)) : G E cl sl ad dm a b r pc lo (x6 :: x5 :: x4 :: x3 :: x2 :: x1 :: .ref (ad nm) :: rest) :=
  g_callI C w hM hlev d hq rfl rfl hr hcs kk
theorem g_cv7i {idx nLy ci nm lev' : Nat} {y : MethodName} {cy : ByteArray} {ret : Option FieldType} {x1 x2 x3 x4 x5 x6 x7 : Value} {v : Value} {a' : Nat → Nat → Int32} {b' : Nat → Nat → Int64} {r' : Nat → Nat → Option Nat} (C : CX E cc own lev) (w : WV own idx y cy nLy ret 7 ci) (d : decode cc pc = .ok (.invokevirtual idx, 3)) (hq : pc + 3 = q) (hl : ly nm = .inl ci) (hd : dm nm = true) (hM : MT (eG E) (eB E) (eL E) y cy nLy ret lev' 0 0 [.ref (ad nm), x1, x2, x3, x4, x5, x6, x7] ad dm a b r (PX (some v) ad dm a' b' r')) (hlev : lev' < lev) (hr : (rest.map fun v => v.category).sum ≤ 8) (hcs : cl ≤ (eR E).cells ∧ sl ≤ (eR E).slots) (kk : G E cl sl ad dm a' b' r' q lo (v :: rest)) : G E cl sl ad dm a b r pc lo (x7 :: x6 :: x5 :: x4 :: x3 :: x2 :: x1 :: .ref (ad nm) :: rest) :=
  g_callV C w hM hlev hl hd d hq rfl rfl hr hcs (fun v0 ad0 dm0 a0 b0 r0 h => by obtain ⟨rfl, rfl, rfl, rfl, rfl, rfl⟩ := h; exact kk)
theorem g_cv7v {idx nLy ci nm lev' : Nat} {y : MethodName} {cy : ByteArray} {ret : Option FieldType} {x1 x2 x3 x4 x5 x6 x7 : Value} {a' : Nat → Nat → Int32} {b' : Nat → Nat → Int64} {r' : Nat → Nat → Option Nat} (C : CX E cc own lev) (w : WV own idx y cy nLy ret 7 ci) (d : decode cc pc = .ok (.invokevirtual idx, 3)) (hq : pc + 3 = q) (hl : ly nm = .inl ci) (hd : dm nm = true) (hM : MT (eG E) (eB E) (eL E) y cy nLy ret lev' 0 0 [.ref (ad nm), x1, x2, x3, x4, x5, x6, x7] ad dm a b r (PX none ad dm a' b' r')) (hlev : lev' < lev) (hr : (rest.map fun v => v.category).sum ≤ 8) (hcs : cl ≤ (eR E).cells ∧ sl ≤ (eR E).slots) (kk : G E cl sl ad dm a' b' r' q lo rest) : G E cl sl ad dm a b r pc lo (x7 :: x6 :: x5 :: x4 :: x3 :: x2 :: x1 :: .ref (ad nm) :: rest) :=
  g_callV C w hM hlev hl hd d hq rfl rfl hr hcs (fun v0 ad0 dm0 a0 b0 r0 h => by obtain ⟨rfl, rfl, rfl, rfl, rfl, rfl⟩ := h; exact kk)
theorem g_cv7g {idx nLy ci nm lev' mc ms : Nat} {y : MethodName} {cy : ByteArray} {ret : Option FieldType} {x1 x2 x3 x4 x5 x6 x7 : Value} {P : PO} (C : CX E cc own lev) (w : WV own idx y cy nLy ret 7 ci) (d : decode cc pc = .ok (.invokevirtual idx, 3)) (hq : pc + 3 = q) (hl : ly nm = .inl ci) (hd : dm nm = true) (hM : MT (eG E) (eB E) (eL E) y cy nLy ret lev' mc ms [.ref (ad nm), x1, x2, x3, x4, x5, x6, x7] ad dm a b r P) (hlev : lev' < lev) (hr : (rest.map fun v => v.category).sum ≤ 8) (hcs : cl + mc ≤ (eR E).cells ∧ sl + ms ≤ (eR E).slots) (kk : ∀ v ad' dm' a' b' r', P v ad' dm' a' b' r' → G E (cl + mc) (sl + ms) ad' dm' a' b' r' q lo (v.toList ++ rest)) : G E cl sl ad dm a b r pc lo (x7 :: x6 :: x5 :: x4 :: x3 :: x2 :: x1 :: .ref (ad nm) :: rest) :=
  g_callV C w hM hlev hl hd d hq rfl rfl hr hcs kk
theorem g_cs7i {idx nLy lev' : Nat} {y : MethodName} {cy : ByteArray} {ret : Option FieldType} {x1 x2 x3 x4 x5 x6 x7 : Value} {v : Value} {a' : Nat → Nat → Int32} {b' : Nat → Nat → Int64} {r' : Nat → Nat → Option Nat} (C : CX E cc own lev) (w : WS own idx y cy nLy ret 7) (d : decode cc pc = .ok (.invokestatic idx, 3)) (hq : pc + 3 = q) (hM : MT (eG E) (eB E) (eL E) y cy nLy ret lev' 0 0 [x1, x2, x3, x4, x5, x6, x7] ad dm a b r (PX (some v) ad dm a' b' r')) (hlev : lev' < lev) (hr : (rest.map fun v => v.category).sum ≤ 8) (hcs : cl ≤ (eR E).cells ∧ sl ≤ (eR E).slots) (kk : G E cl sl ad dm a' b' r' q lo (v :: rest)) : G E cl sl ad dm a b r pc lo (x7 :: x6 :: x5 :: x4 :: x3 :: x2 :: x1 :: rest) :=
  g_callS C w hM hlev d hq rfl rfl hr hcs (fun v0 ad0 dm0 a0 b0 r0 h => by obtain ⟨rfl, rfl, rfl, rfl, rfl, rfl⟩ := h; exact kk)
theorem g_ci7g {idx nLy nm lev' mc ms : Nat} {y : MethodName} {cy : ByteArray} {x1 x2 x3 x4 x5 x6 x7 : Value} {P : PO} (C : CX E cc own lev) (w : WI own idx y cy nLy 7) (d : decode cc pc = .ok (.invokespecial idx, 3)) (hq : pc + 3 = q) (hM : MT (eG E) (eB E) (eL E) y cy nLy none lev' mc ms [.ref (ad nm), x1, x2, x3, x4, x5, x6, x7] ad dm a b r P) (hlev : lev' < lev) (hr : (rest.map fun v => v.category).sum ≤ 8) (hcs : cl + mc ≤ (eR E).cells ∧ sl + ms ≤ (eR E).slots) (kk : ∀ v ad' dm' a' b' r', P v ad' dm' a' b' r' → G E (cl + mc) (sl + ms) ad' dm' a' b' r' q lo (v.toList ++ rest)) : G E cl sl ad dm a b r pc lo (x7 :: x6 :: x5 :: x4 :: x3 :: x2 :: x1 :: .ref (ad nm) :: rest) :=
  g_callI C w hM hlev d hq rfl rfl hr hcs kk
/-- ends -/
theorem g_iret {v : Int32} {P : PO} (C : CX E cc own lev) (T : RT E cl sl (some .int) P) (d : decode cc pc = .ok (.ireturn, 1)) (h : P (some (.int v)) ad dm a b r) : G E cl sl ad dm a b r pc lo [.int v] := fun H L ls hW hS hl => by
  unfold WW
  rw [T.1]
  exact W.iret C.1 C.2.1 T.2.1 (fun t ht _ => ⟨⟨_, _, _, _, _, _, rfl, h, by rw [ht]; exact hW⟩, hS.F ht⟩) hS.2.2 d T.2.2
theorem g_zret {v : Int32} {P : PO} (C : CX E cc own lev) (T : RT E cl sl (some .boolean) P) (d : decode cc pc = .ok (.ireturn, 1)) (hn : narrow .boolean (.int v) = .int v) (h : P (some (.int v)) ad dm a b r) : G E cl sl ad dm a b r pc lo [.int v] := fun H L ls hW hS hl => by
  unfold WW
  rw [T.1]
  exact W.zret C.1 C.2.1 T.2.1 hn (fun t ht _ => ⟨⟨_, _, _, _, _, _, rfl, h, by rw [ht]; exact hW⟩, hS.F ht⟩) hS.2.2 d T.2.2
theorem g_lret {v : Int64} {P : PO} (C : CX E cc own lev) (T : RT E cl sl (some .long) P) (d : decode cc pc = .ok (.lreturn, 1)) (h : P (some (.long v)) ad dm a b r) : G E cl sl ad dm a b r pc lo [.long v] := fun H L ls hW hS hl => by
  unfold WW
  rw [T.1]
  exact W.lret C.1 C.2.1 T.2.1 (fun t ht _ => ⟨⟨_, _, _, _, _, _, rfl, h, by rw [ht]; exact hW⟩, hS.F ht⟩) hS.2.2 d T.2.2
theorem g_vret {P : PO} (C : CX E cc own lev) (T : RT E cl sl none P) (d : decode cc pc = .ok (.return_, 1)) (h : P none ad dm a b r) : G E cl sl ad dm a b r pc lo [] := fun H L ls hW hS hl => by
  unfold WW
  rw [T.1]
  exact W.vret C.1 C.2.1 T.2.1 (fun t ht _ => ⟨⟨_, _, _, _, _, _, rfl, h, by rw [ht]; exact hW⟩, hS.F ht⟩) hS.2.2 d T.2.2
theorem g_aret {v : Value} {c0 : String} {P : PO} (C : CX E cc own lev) (T : RT E cl sl (some (.object c0)) P) (d : decode cc pc = .ok (.areturn, 1)) (hv : v = .null ∨ ∃ n, v = .ref n) (h : P (some v) ad dm a b r) : G E cl sl ad dm a b r pc lo [v] := fun H L ls hW hS hl => by
  unfold WW
  rw [T.1]
  exact W.aret C.1 C.2.1 T.2.1 (Or.inl ⟨_, rfl⟩) hv (fun t ht _ => ⟨⟨_, _, _, _, _, _, rfl, h, by rw [ht]; exact hW⟩, hS.F ht⟩) hS.2.2 d T.2.2
/-- Math.max, Math.min -/
theorem g_mmax {idx : Nat} {x y : Int32} (C : CX E cc own lev) (w : Cond.methodLink own idx Lib.Math.max.name ∈ gd ∧ Cond.static Lib.Math.max.name ∈ gd ∧ Cond.initialized "java/lang/Math" ∈ gd ∧ Cond.code Lib.Math.max.name Lib.Math.max.code 2 (some .int) ∈ gd) (d : decode cc pc = .ok (.invokestatic idx, 3)) (hq : pc + 3 = q) (hlev : 0 < lev) (hr : (rest.map fun v => v.category).sum ≤ 8) (hcs : cl ≤ (eR E).cells ∧ sl ≤ (eR E).slots) (kk : G E cl sl ad dm a b r q lo (.int (if x < y then y else x) :: rest)) : G E cl sl ad dm a b r pc lo (.int y :: .int x :: rest) := fun H L ls hW hS hl => by
  subst hq
  obtain ⟨hx, hb, hml, hown, hts, hK, hf, hlc⟩ := C
  exact va_mmax hx hb (hml.trans hl.1.symm) hown (hts _ w.1) (hts _ w.2.1) (hts _ w.2.2.1) (hts _ w.2.2.2) (by omega) (by omega) hcs.1 hcs.2 d (kk H L ls hW hS hl)
theorem g_mmin {idx : Nat} {x y : Int32} (C : CX E cc own lev) (w : Cond.methodLink own idx Lib.Math.min.name ∈ gd ∧ Cond.static Lib.Math.min.name ∈ gd ∧ Cond.initialized "java/lang/Math" ∈ gd ∧ Cond.code Lib.Math.min.name Lib.Math.min.code 2 (some .int) ∈ gd) (d : decode cc pc = .ok (.invokestatic idx, 3)) (hq : pc + 3 = q) (hlev : 0 < lev) (hr : (rest.map fun v => v.category).sum ≤ 8) (hcs : cl ≤ (eR E).cells ∧ sl ≤ (eR E).slots) (kk : G E cl sl ad dm a b r q lo (.int (if y < x then y else x) :: rest)) : G E cl sl ad dm a b r pc lo (.int y :: .int x :: rest) := fun H L ls hW hS hl => by
  subst hq
  obtain ⟨hx, hb, hml, hown, hts, hK, hf, hlc⟩ := C
  exact va_mmin hx hb (hml.trans hl.1.symm) hown (hts _ w.1) (hts _ w.2.1) (hts _ w.2.2.1) (hts _ w.2.2.2) (by omega) (by omega) hcs.1 hcs.2 d (kk H L ls hW hS hl)
/-- booleans -/
def bI (c : Bool) : Int32 := if c then 1 else 0
theorem g_ifeqb {c : Bool} {off : Int} {tgt : Nat} (C : CX E cc own lev) (d : decode cc pc = .ok (.ifCond .eq off, 3)) (hq : pc + 3 = q) (ht : (pc : Int) + off = (tgt : Int)) (kt : c = false → G E cl sl ad dm a b r tgt lo rest) (kf : c = true → G E cl sl ad dm a b r q lo rest) : G E cl sl ad dm a b r pc lo (.int (bI c) :: rest) := g_if_eq C d hq ht (fun h => kt (by cases c <;> first | rfl | exact absurd h (by decide))) (fun h => kf (by cases c <;> first | rfl | exact absurd rfl h))
theorem g_ifneb {c : Bool} {off : Int} {tgt : Nat} (C : CX E cc own lev) (d : decode cc pc = .ok (.ifCond .ne off, 3)) (hq : pc + 3 = q) (ht : (pc : Int) + off = (tgt : Int)) (kt : c = true → G E cl sl ad dm a b r tgt lo rest) (kf : c = false → G E cl sl ad dm a b r q lo rest) : G E cl sl ad dm a b r pc lo (.int (bI c) :: rest) := g_if_ne C d hq ht (fun h => kt (by cases c <;> first | rfl | exact absurd rfl h)) (fun h => kf (by cases c <;> first | rfl | exact absurd h (by decide)))
end GC
end
section
/-! the words, one by one -/
theorem in_X0 : ∀ w ∈ u_ws RX0 TX0 9, w ∈ gd := by decide +kernel
theorem in_X1 : ∀ w ∈ u_ws RX1 TX1 13, w ∈ gd := by decide +kernel
theorem in_X2 : ∀ w ∈ u_ws RX2 TX2 9, w ∈ gd := by decide +kernel
theorem in_X3 : ∀ w ∈ u_ws RX3 TX3 8, w ∈ gd := by decide +kernel
theorem in_X4 : ∀ w ∈ u_ws RX4 TX4 20, w ∈ gd := by decide +kernel
theorem f_X1_11 : FF RX1 11 1 0 9 := ⟨RX1, TX1, 13, rfl, in_X1, gd_1 31 (by decide +kernel) rfl, by decide, rfl, rfl⟩
theorem p_X1_11 : FP RX1 11 1 0 9 true (.array (.object "TooMany$Party")) := ⟨RX1, TX1, 13, tyX1, rfl, in_X1, gd_1 31 (by decide +kernel) rfl, by decide, rfl, rfl, tyX1_ok, nmX1, rfl, rfl, rfl⟩
theorem f_X1_17 : FF RX1 17 1 1 10 := ⟨RX1, TX1, 13, rfl, in_X1, gd_1 32 (by decide +kernel) rfl, by decide, rfl, rfl⟩
theorem p_X1_17 : FP RX1 17 1 1 10 true (.array .int) := ⟨RX1, TX1, 13, tyX1, rfl, in_X1, gd_1 32 (by decide +kernel) rfl, by decide, rfl, rfl, tyX1_ok, nmX1, rfl, rfl, rfl⟩
theorem f_X1_21 : FF RX1 21 1 2 11 := ⟨RX1, TX1, 13, rfl, in_X1, gd_1 33 (by decide +kernel) rfl, by decide, rfl, rfl⟩
theorem p_X1_21 : FP RX1 21 1 2 11 true (.array .int) := ⟨RX1, TX1, 13, tyX1, rfl, in_X1, gd_1 33 (by decide +kernel) rfl, by decide, rfl, rfl, tyX1_ok, nmX1, rfl, rfl, rfl⟩
theorem f_X1_24 : FF RX1 24 1 3 12 := ⟨RX1, TX1, 13, rfl, in_X1, gd_1 34 (by decide +kernel) rfl, by decide, rfl, rfl⟩
theorem p_X1_24 : FP RX1 24 1 3 12 true (.array .int) := ⟨RX1, TX1, 13, tyX1, rfl, in_X1, gd_1 34 (by decide +kernel) rfl, by decide, rfl, rfl, tyX1_ok, nmX1, rfl, rfl, rfl⟩
theorem f_X1_27 : FF RX1 27 1 4 13 := ⟨RX1, TX1, 13, rfl, in_X1, gd_1 35 (by decide +kernel) rfl, by decide, rfl, rfl⟩
theorem p_X1_27 : FP RX1 27 1 4 13 true (.array .int) := ⟨RX1, TX1, 13, tyX1, rfl, in_X1, gd_1 35 (by decide +kernel) rfl, by decide, rfl, rfl, tyX1_ok, nmX1, rfl, rfl, rfl⟩
theorem f_X1_30 : FF RX1 30 1 5 14 := ⟨RX1, TX1, 13, rfl, in_X1, gd_1 36 (by decide +kernel) rfl, by decide, rfl, rfl⟩
theorem p_X1_30 : FP RX1 30 1 5 14 true (.array .int) := ⟨RX1, TX1, 13, tyX1, rfl, in_X1, gd_1 36 (by decide +kernel) rfl, by decide, rfl, rfl, tyX1_ok, nmX1, rfl, rfl, rfl⟩
theorem f_X1_33 : FF RX1 33 1 6 15 := ⟨RX1, TX1, 13, rfl, in_X1, gd_1 37 (by decide +kernel) rfl, by decide, rfl, rfl⟩
theorem p_X1_33 : FP RX1 33 1 6 15 true (.array .int) := ⟨RX1, TX1, 13, tyX1, rfl, in_X1, gd_1 37 (by decide +kernel) rfl, by decide, rfl, rfl, tyX1_ok, nmX1, rfl, rfl, rfl⟩
theorem f_X1_38 : FF RX1 38 1 7 16 := ⟨RX1, TX1, 13, rfl, in_X1, gd_1 38 (by decide +kernel) rfl, by decide, rfl, rfl⟩
theorem p_X1_38 : FP RX1 38 1 7 16 true (.array (.object "TooMany$Flight")) := ⟨RX1, TX1, 13, tyX1, rfl, in_X1, gd_1 38 (by decide +kernel) rfl, by decide, rfl, rfl, tyX1_ok, nmX1, rfl, rfl, rfl⟩
theorem f_X1_42 : FF RX1 42 1 8 17 := ⟨RX1, TX1, 13, rfl, in_X1, gd_1 39 (by decide +kernel) rfl, by decide, rfl, rfl⟩
theorem p_X1_42 : FP RX1 42 1 8 17 true (.array (.object "TooMany$Flight")) := ⟨RX1, TX1, 13, tyX1, rfl, in_X1, gd_1 39 (by decide +kernel) rfl, by decide, rfl, rfl, tyX1_ok, nmX1, rfl, rfl, rfl⟩
theorem f_X1_45 : FF RX1 45 1 9 18 := ⟨RX1, TX1, 13, rfl, in_X1, gd_1 40 (by decide +kernel) rfl, by decide, rfl, rfl⟩
theorem p_X1_45 : FP RX1 45 1 9 18 true (.array .int) := ⟨RX1, TX1, 13, tyX1, rfl, in_X1, gd_1 40 (by decide +kernel) rfl, by decide, rfl, rfl, tyX1_ok, nmX1, rfl, rfl, rfl⟩
theorem f_X1_48 : FF RX1 48 1 10 19 := ⟨RX1, TX1, 13, rfl, in_X1, gd_1 41 (by decide +kernel) rfl, by decide, rfl, rfl⟩
theorem p_X1_48 : FP RX1 48 1 10 19 true (.array .long) := ⟨RX1, TX1, 13, tyX1, rfl, in_X1, gd_1 41 (by decide +kernel) rfl, by decide, rfl, rfl, tyX1_ok, nmX1, rfl, rfl, rfl⟩
theorem f_X1_52 : FF RX1 52 1 11 1 := ⟨RX1, TX1, 13, rfl, in_X1, gd_1 42 (by decide +kernel) rfl, by decide, rfl, rfl⟩
theorem p_X1_52 : FP RX1 52 1 11 1 false .long := ⟨RX1, TX1, 13, tyX1, rfl, in_X1, gd_1 42 (by decide +kernel) rfl, by decide, rfl, rfl, tyX1_ok, nmX1, rfl, rfl, rfl⟩
theorem f_X1_56 : FF RX1 56 1 12 0 := ⟨RX1, TX1, 13, rfl, in_X1, gd_1 43 (by decide +kernel) rfl, by decide, rfl, rfl⟩
theorem p_X1_56 : FP RX1 56 1 12 0 false .int := ⟨RX1, TX1, 13, tyX1, rfl, in_X1, gd_1 43 (by decide +kernel) rfl, by decide, rfl, rfl, tyX1_ok, nmX1, rfl, rfl, rfl⟩
theorem f_X3_11 : FF RX3 11 3 0 4 := ⟨RX3, TX3, 8, rfl, in_X3, gd_1 73 (by decide +kernel) rfl, by decide, rfl, rfl⟩
theorem p_X3_11 : FP RX3 11 3 0 4 true (.array (.object "TooMany$Flight")) := ⟨RX3, TX3, 8, tyX3, rfl, in_X3, gd_1 73 (by decide +kernel) rfl, by decide, rfl, rfl, tyX3_ok, nmX3, rfl, rfl, rfl⟩
theorem f_X3_17 : FF RX3 17 3 1 5 := ⟨RX3, TX3, 8, rfl, in_X3, gd_1 74 (by decide +kernel) rfl, by decide, rfl, rfl⟩
theorem p_X3_17 : FP RX3 17 3 1 5 true (.array (.object "TooMany$Party")) := ⟨RX3, TX3, 8, tyX3, rfl, in_X3, gd_1 74 (by decide +kernel) rfl, by decide, rfl, rfl, tyX3_ok, nmX3, rfl, rfl, rfl⟩
theorem f_X3_21 : FF RX3 21 3 2 6 := ⟨RX3, TX3, 8, rfl, in_X3, gd_1 75 (by decide +kernel) rfl, by decide, rfl, rfl⟩
theorem p_X3_21 : FP RX3 21 3 2 6 true (.array .int) := ⟨RX3, TX3, 8, tyX3, rfl, in_X3, gd_1 75 (by decide +kernel) rfl, by decide, rfl, rfl, tyX3_ok, nmX3, rfl, rfl, rfl⟩
theorem f_X3_25 : FF RX3 25 3 3 7 := ⟨RX3, TX3, 8, rfl, in_X3, gd_1 76 (by decide +kernel) rfl, by decide, rfl, rfl⟩
theorem p_X3_25 : FP RX3 25 3 3 7 true (.array .long) := ⟨RX3, TX3, 8, tyX3, rfl, in_X3, gd_1 76 (by decide +kernel) rfl, by decide, rfl, rfl, tyX3_ok, nmX3, rfl, rfl, rfl⟩
theorem f_X3_32 : FF RX3 32 3 4 8 := ⟨RX3, TX3, 8, rfl, in_X3, gd_1 77 (by decide +kernel) rfl, by decide, rfl, rfl⟩
theorem p_X3_32 : FP RX3 32 3 4 8 true (.object "TooMany$Mover") := ⟨RX3, TX3, 8, tyX3, rfl, in_X3, gd_1 77 (by decide +kernel) rfl, by decide, rfl, rfl, tyX3_ok, nmX3, rfl, rfl, rfl⟩
theorem f_X3_36 : FF RX3 36 3 5 0 := ⟨RX3, TX3, 8, rfl, in_X3, gd_1 78 (by decide +kernel) rfl, by decide, rfl, rfl⟩
theorem p_X3_36 : FP RX3 36 3 5 0 false .int := ⟨RX3, TX3, 8, tyX3, rfl, in_X3, gd_1 78 (by decide +kernel) rfl, by decide, rfl, rfl, tyX3_ok, nmX3, rfl, rfl, rfl⟩
theorem f_X3_40 : FF RX3 40 3 6 0 := ⟨RX3, TX3, 8, rfl, in_X3, gd_1 79 (by decide +kernel) rfl, by decide, rfl, rfl⟩
theorem p_X3_40 : FP RX3 40 3 6 0 false .int := ⟨RX3, TX3, 8, tyX3, rfl, in_X3, gd_1 79 (by decide +kernel) rfl, by decide, rfl, rfl, tyX3_ok, nmX3, rfl, rfl, rfl⟩
theorem f_X3_43 : FF RX3 43 3 7 0 := ⟨RX3, TX3, 8, rfl, in_X3, gd_1 80 (by decide +kernel) rfl, by decide, rfl, rfl⟩
theorem p_X3_43 : FP RX3 43 3 7 0 false .int := ⟨RX3, TX3, 8, tyX3, rfl, in_X3, gd_1 80 (by decide +kernel) rfl, by decide, rfl, rfl, tyX3_ok, nmX3, rfl, rfl, rfl⟩
theorem f_X0_17 : FF RX0 17 0 0 0 := ⟨RX0, TX0, 9, rfl, in_X0, gd_1 110 (by decide +kernel) rfl, by decide, rfl, rfl⟩
theorem p_X0_17 : FP RX0 17 0 0 0 true .int := ⟨RX0, TX0, 9, tyX0, rfl, in_X0, gd_1 110 (by decide +kernel) rfl, by decide, rfl, rfl, tyX0_ok, nmX0, rfl, rfl, rfl⟩
theorem f_X3_99 : FF RX3 99 0 0 0 := ⟨RX0, TX0, 9, rfl, in_X0, gd_1 111 (by decide +kernel) rfl, by decide, rfl, rfl⟩
theorem p_X3_99 : FP RX3 99 0 0 0 true .int := ⟨RX0, TX0, 9, tyX0, rfl, in_X0, gd_1 111 (by decide +kernel) rfl, by decide, rfl, rfl, tyX0_ok, nmX0, rfl, rfl, rfl⟩
theorem f_X0_20 : FF RX0 20 0 1 0 := ⟨RX0, TX0, 9, rfl, in_X0, gd_1 112 (by decide +kernel) rfl, by decide, rfl, rfl⟩
theorem p_X0_20 : FP RX0 20 0 1 0 true .int := ⟨RX0, TX0, 9, tyX0, rfl, in_X0, gd_1 112 (by decide +kernel) rfl, by decide, rfl, rfl, tyX0_ok, nmX0, rfl, rfl, rfl⟩
theorem f_X3_255 : FF RX3 255 0 1 0 := ⟨RX0, TX0, 9, rfl, in_X0, gd_1 113 (by decide +kernel) rfl, by decide, rfl, rfl⟩
theorem p_X3_255 : FP RX3 255 0 1 0 true .int := ⟨RX0, TX0, 9, tyX0, rfl, in_X0, gd_1 113 (by decide +kernel) rfl, by decide, rfl, rfl, tyX0_ok, nmX0, rfl, rfl, rfl⟩
theorem f_X0_23 : FF RX0 23 0 2 0 := ⟨RX0, TX0, 9, rfl, in_X0, gd_1 114 (by decide +kernel) rfl, by decide, rfl, rfl⟩
theorem p_X0_23 : FP RX0 23 0 2 0 true .int := ⟨RX0, TX0, 9, tyX0, rfl, in_X0, gd_1 114 (by decide +kernel) rfl, by decide, rfl, rfl, tyX0_ok, nmX0, rfl, rfl, rfl⟩
theorem f_X3_261 : FF RX3 261 0 2 0 := ⟨RX0, TX0, 9, rfl, in_X0, gd_1 115 (by decide +kernel) rfl, by decide, rfl, rfl⟩
theorem p_X3_261 : FP RX3 261 0 2 0 true .int := ⟨RX0, TX0, 9, tyX0, rfl, in_X0, gd_1 115 (by decide +kernel) rfl, by decide, rfl, rfl, tyX0_ok, nmX0, rfl, rfl, rfl⟩
theorem f_X0_26 : FF RX0 26 0 3 0 := ⟨RX0, TX0, 9, rfl, in_X0, gd_1 116 (by decide +kernel) rfl, by decide, rfl, rfl⟩
theorem p_X0_26 : FP RX0 26 0 3 0 true .int := ⟨RX0, TX0, 9, tyX0, rfl, in_X0, gd_1 116 (by decide +kernel) rfl, by decide, rfl, rfl, tyX0_ok, nmX0, rfl, rfl, rfl⟩
theorem f_X3_258 : FF RX3 258 0 3 0 := ⟨RX0, TX0, 9, rfl, in_X0, gd_1 117 (by decide +kernel) rfl, by decide, rfl, rfl⟩
theorem p_X3_258 : FP RX3 258 0 3 0 true .int := ⟨RX0, TX0, 9, tyX0, rfl, in_X0, gd_1 117 (by decide +kernel) rfl, by decide, rfl, rfl, tyX0_ok, nmX0, rfl, rfl, rfl⟩
theorem f_X0_29 : FF RX0 29 0 4 0 := ⟨RX0, TX0, 9, rfl, in_X0, gd_1 118 (by decide +kernel) rfl, by decide, rfl, rfl⟩
theorem p_X0_29 : FP RX0 29 0 4 0 true .int := ⟨RX0, TX0, 9, tyX0, rfl, in_X0, gd_1 118 (by decide +kernel) rfl, by decide, rfl, rfl, tyX0_ok, nmX0, rfl, rfl, rfl⟩
theorem f_X2_53 : FF RX2 53 0 4 0 := ⟨RX0, TX0, 9, rfl, in_X0, gd_1 119 (by decide +kernel) rfl, by decide, rfl, rfl⟩
theorem p_X2_53 : FP RX2 53 0 4 0 true .int := ⟨RX0, TX0, 9, tyX0, rfl, in_X0, gd_1 119 (by decide +kernel) rfl, by decide, rfl, rfl, tyX0_ok, nmX0, rfl, rfl, rfl⟩
theorem f_X3_264 : FF RX3 264 0 4 0 := ⟨RX0, TX0, 9, rfl, in_X0, gd_1 120 (by decide +kernel) rfl, by decide, rfl, rfl⟩
theorem p_X3_264 : FP RX3 264 0 4 0 true .int := ⟨RX0, TX0, 9, tyX0, rfl, in_X0, gd_1 120 (by decide +kernel) rfl, by decide, rfl, rfl, tyX0_ok, nmX0, rfl, rfl, rfl⟩
theorem f_X0_32 : FF RX0 32 0 5 0 := ⟨RX0, TX0, 9, rfl, in_X0, gd_1 121 (by decide +kernel) rfl, by decide, rfl, rfl⟩
theorem p_X0_32 : FP RX0 32 0 5 0 true .int := ⟨RX0, TX0, 9, tyX0, rfl, in_X0, gd_1 121 (by decide +kernel) rfl, by decide, rfl, rfl, tyX0_ok, nmX0, rfl, rfl, rfl⟩
theorem f_X3_75 : FF RX3 75 0 5 0 := ⟨RX0, TX0, 9, rfl, in_X0, gd_1 122 (by decide +kernel) rfl, by decide, rfl, rfl⟩
theorem p_X3_75 : FP RX3 75 0 5 0 true .int := ⟨RX0, TX0, 9, tyX0, rfl, in_X0, gd_1 122 (by decide +kernel) rfl, by decide, rfl, rfl, tyX0_ok, nmX0, rfl, rfl, rfl⟩
theorem f_X0_35 : FF RX0 35 0 6 0 := ⟨RX0, TX0, 9, rfl, in_X0, gd_1 123 (by decide +kernel) rfl, by decide, rfl, rfl⟩
theorem p_X0_35 : FP RX0 35 0 6 0 true .int := ⟨RX0, TX0, 9, tyX0, rfl, in_X0, gd_1 123 (by decide +kernel) rfl, by decide, rfl, rfl, tyX0_ok, nmX0, rfl, rfl, rfl⟩
theorem f_X3_230 : FF RX3 230 0 6 0 := ⟨RX0, TX0, 9, rfl, in_X0, gd_1 124 (by decide +kernel) rfl, by decide, rfl, rfl⟩
theorem p_X3_230 : FP RX3 230 0 6 0 true .int := ⟨RX0, TX0, 9, tyX0, rfl, in_X0, gd_1 124 (by decide +kernel) rfl, by decide, rfl, rfl, tyX0_ok, nmX0, rfl, rfl, rfl⟩
theorem f_X0_7 : FF RX0 7 0 7 0 := ⟨RX0, TX0, 9, rfl, in_X0, gd_1 125 (by decide +kernel) rfl, by decide, rfl, rfl⟩
theorem p_X0_7 : FP RX0 7 0 7 0 false .boolean := ⟨RX0, TX0, 9, tyX0, rfl, in_X0, gd_1 125 (by decide +kernel) rfl, by decide, rfl, rfl, tyX0_ok, nmX0, rfl, rfl, rfl⟩
theorem f_X3_57 : FF RX3 57 0 7 0 := ⟨RX0, TX0, 9, rfl, in_X0, gd_1 126 (by decide +kernel) rfl, by decide, rfl, rfl⟩
theorem p_X3_57 : FP RX3 57 0 7 0 false .boolean := ⟨RX0, TX0, 9, tyX0, rfl, in_X0, gd_1 126 (by decide +kernel) rfl, by decide, rfl, rfl, tyX0_ok, nmX0, rfl, rfl, rfl⟩
theorem f_X0_13 : FF RX0 13 0 8 0 := ⟨RX0, TX0, 9, rfl, in_X0, gd_1 127 (by decide +kernel) rfl, by decide, rfl, rfl⟩
theorem p_X0_13 : FP RX0 13 0 8 0 false .int := ⟨RX0, TX0, 9, tyX0, rfl, in_X0, gd_1 127 (by decide +kernel) rfl, by decide, rfl, rfl, tyX0_ok, nmX0, rfl, rfl, rfl⟩
theorem f_X1_119 : FF RX1 119 0 8 0 := ⟨RX0, TX0, 9, rfl, in_X0, gd_1 128 (by decide +kernel) rfl, by decide, rfl, rfl⟩
theorem p_X1_119 : FP RX1 119 0 8 0 false .int := ⟨RX0, TX0, 9, tyX0, rfl, in_X0, gd_1 128 (by decide +kernel) rfl, by decide, rfl, rfl, tyX0_ok, nmX0, rfl, rfl, rfl⟩
theorem f_X3_194 : FF RX3 194 0 8 0 := ⟨RX0, TX0, 9, rfl, in_X0, gd_1 129 (by decide +kernel) rfl, by decide, rfl, rfl⟩
theorem p_X3_194 : FP RX3 194 0 8 0 false .int := ⟨RX0, TX0, 9, tyX0, rfl, in_X0, gd_1 129 (by decide +kernel) rfl, by decide, rfl, rfl, tyX0_ok, nmX0, rfl, rfl, rfl⟩
theorem f_X2_25 : FF RX2 25 2 0 2 := ⟨RX2, TX2, 9, rfl, in_X2, gd_1 166 (by decide +kernel) rfl, by decide, rfl, rfl⟩
theorem p_X2_25 : FP RX2 25 2 0 2 true (.object "TooMany$Flight") := ⟨RX2, TX2, 9, tyX2, rfl, in_X2, gd_1 166 (by decide +kernel) rfl, by decide, rfl, rfl, tyX2_ok, nmX2, rfl, rfl, rfl⟩
theorem f_X1_87 : FF RX1 87 2 0 2 := ⟨RX2, TX2, 9, rfl, in_X2, gd_1 167 (by decide +kernel) rfl, by decide, rfl, rfl⟩
theorem p_X1_87 : FP RX1 87 2 0 2 true (.object "TooMany$Flight") := ⟨RX2, TX2, 9, tyX2, rfl, in_X2, gd_1 167 (by decide +kernel) rfl, by decide, rfl, rfl, tyX2_ok, nmX2, rfl, rfl, rfl⟩
theorem f_X3_95 : FF RX3 95 2 0 2 := ⟨RX2, TX2, 9, rfl, in_X2, gd_1 168 (by decide +kernel) rfl, by decide, rfl, rfl⟩
theorem p_X3_95 : FP RX3 95 2 0 2 true (.object "TooMany$Flight") := ⟨RX2, TX2, 9, tyX2, rfl, in_X2, gd_1 168 (by decide +kernel) rfl, by decide, rfl, rfl, tyX2_ok, nmX2, rfl, rfl, rfl⟩
theorem f_X2_28 : FF RX2 28 2 1 0 := ⟨RX2, TX2, 9, rfl, in_X2, gd_1 169 (by decide +kernel) rfl, by decide, rfl, rfl⟩
theorem p_X2_28 : FP RX2 28 2 1 0 true .int := ⟨RX2, TX2, 9, tyX2, rfl, in_X2, gd_1 169 (by decide +kernel) rfl, by decide, rfl, rfl, tyX2_ok, nmX2, rfl, rfl, rfl⟩
theorem f_X1_76 : FF RX1 76 2 1 0 := ⟨RX2, TX2, 9, rfl, in_X2, gd_1 170 (by decide +kernel) rfl, by decide, rfl, rfl⟩
theorem p_X1_76 : FP RX1 76 2 1 0 true .int := ⟨RX2, TX2, 9, tyX2, rfl, in_X2, gd_1 170 (by decide +kernel) rfl, by decide, rfl, rfl, tyX2_ok, nmX2, rfl, rfl, rfl⟩
theorem f_X3_102 : FF RX3 102 2 1 0 := ⟨RX2, TX2, 9, rfl, in_X2, gd_1 171 (by decide +kernel) rfl, by decide, rfl, rfl⟩
theorem p_X3_102 : FP RX3 102 2 1 0 true .int := ⟨RX2, TX2, 9, tyX2, rfl, in_X2, gd_1 171 (by decide +kernel) rfl, by decide, rfl, rfl, tyX2_ok, nmX2, rfl, rfl, rfl⟩
theorem f_X2_31 : FF RX2 31 2 2 0 := ⟨RX2, TX2, 9, rfl, in_X2, gd_1 172 (by decide +kernel) rfl, by decide, rfl, rfl⟩
theorem p_X2_31 : FP RX2 31 2 2 0 true .int := ⟨RX2, TX2, 9, tyX2, rfl, in_X2, gd_1 172 (by decide +kernel) rfl, by decide, rfl, rfl, tyX2_ok, nmX2, rfl, rfl, rfl⟩
theorem f_X3_252 : FF RX3 252 2 2 0 := ⟨RX2, TX2, 9, rfl, in_X2, gd_1 173 (by decide +kernel) rfl, by decide, rfl, rfl⟩
theorem p_X3_252 : FP RX3 252 2 2 0 true .int := ⟨RX2, TX2, 9, tyX2, rfl, in_X2, gd_1 173 (by decide +kernel) rfl, by decide, rfl, rfl, tyX2_ok, nmX2, rfl, rfl, rfl⟩
theorem f_X2_34 : FF RX2 34 2 3 0 := ⟨RX2, TX2, 9, rfl, in_X2, gd_1 174 (by decide +kernel) rfl, by decide, rfl, rfl⟩
theorem p_X2_34 : FP RX2 34 2 3 0 true .int := ⟨RX2, TX2, 9, tyX2, rfl, in_X2, gd_1 174 (by decide +kernel) rfl, by decide, rfl, rfl, tyX2_ok, nmX2, rfl, rfl, rfl⟩
theorem f_X3_151 : FF RX3 151 2 3 0 := ⟨RX2, TX2, 9, rfl, in_X2, gd_1 175 (by decide +kernel) rfl, by decide, rfl, rfl⟩
theorem p_X3_151 : FP RX3 151 2 3 0 true .int := ⟨RX2, TX2, 9, tyX2, rfl, in_X2, gd_1 175 (by decide +kernel) rfl, by decide, rfl, rfl, tyX2_ok, nmX2, rfl, rfl, rfl⟩
theorem f_X2_37 : FF RX2 37 2 4 0 := ⟨RX2, TX2, 9, rfl, in_X2, gd_1 176 (by decide +kernel) rfl, by decide, rfl, rfl⟩
theorem p_X2_37 : FP RX2 37 2 4 0 true .boolean := ⟨RX2, TX2, 9, tyX2, rfl, in_X2, gd_1 176 (by decide +kernel) rfl, by decide, rfl, rfl, tyX2_ok, nmX2, rfl, rfl, rfl⟩
theorem f_X3_227 : FF RX3 227 2 4 0 := ⟨RX2, TX2, 9, rfl, in_X2, gd_1 177 (by decide +kernel) rfl, by decide, rfl, rfl⟩
theorem p_X3_227 : FP RX3 227 2 4 0 true .boolean := ⟨RX2, TX2, 9, tyX2, rfl, in_X2, gd_1 177 (by decide +kernel) rfl, by decide, rfl, rfl, tyX2_ok, nmX2, rfl, rfl, rfl⟩
theorem f_X2_9 : FF RX2 9 2 5 0 := ⟨RX2, TX2, 9, rfl, in_X2, gd_1 178 (by decide +kernel) rfl, by decide, rfl, rfl⟩
theorem p_X2_9 : FP RX2 9 2 5 0 false .int := ⟨RX2, TX2, 9, tyX2, rfl, in_X2, gd_1 178 (by decide +kernel) rfl, by decide, rfl, rfl, tyX2_ok, nmX2, rfl, rfl, rfl⟩
theorem f_X3_92 : FF RX3 92 2 5 0 := ⟨RX2, TX2, 9, rfl, in_X2, gd_1 179 (by decide +kernel) rfl, by decide, rfl, rfl⟩
theorem p_X3_92 : FP RX3 92 2 5 0 false .int := ⟨RX2, TX2, 9, tyX2, rfl, in_X2, gd_1 179 (by decide +kernel) rfl, by decide, rfl, rfl, tyX2_ok, nmX2, rfl, rfl, rfl⟩
theorem f_X2_15 : FF RX2 15 2 6 0 := ⟨RX2, TX2, 9, rfl, in_X2, gd_1 180 (by decide +kernel) rfl, by decide, rfl, rfl⟩
theorem p_X2_15 : FP RX2 15 2 6 0 false .int := ⟨RX2, TX2, 9, tyX2, rfl, in_X2, gd_1 180 (by decide +kernel) rfl, by decide, rfl, rfl, tyX2_ok, nmX2, rfl, rfl, rfl⟩
theorem f_X3_105 : FF RX3 105 2 6 0 := ⟨RX2, TX2, 9, rfl, in_X2, gd_1 181 (by decide +kernel) rfl, by decide, rfl, rfl⟩
theorem p_X3_105 : FP RX3 105 2 6 0 false .int := ⟨RX2, TX2, 9, tyX2, rfl, in_X2, gd_1 181 (by decide +kernel) rfl, by decide, rfl, rfl, tyX2_ok, nmX2, rfl, rfl, rfl⟩
theorem f_X2_18 : FF RX2 18 2 7 2 := ⟨RX2, TX2, 9, rfl, in_X2, gd_1 182 (by decide +kernel) rfl, by decide, rfl, rfl⟩
theorem p_X2_18 : FP RX2 18 2 7 2 false (.object "TooMany$Flight") := ⟨RX2, TX2, 9, tyX2, rfl, in_X2, gd_1 182 (by decide +kernel) rfl, by decide, rfl, rfl, tyX2_ok, nmX2, rfl, rfl, rfl⟩
theorem f_X3_108 : FF RX3 108 2 7 2 := ⟨RX2, TX2, 9, rfl, in_X2, gd_1 183 (by decide +kernel) rfl, by decide, rfl, rfl⟩
theorem p_X3_108 : FP RX3 108 2 7 2 false (.object "TooMany$Flight") := ⟨RX2, TX2, 9, tyX2, rfl, in_X2, gd_1 183 (by decide +kernel) rfl, by decide, rfl, rfl, tyX2_ok, nmX2, rfl, rfl, rfl⟩
theorem f_X2_22 : FF RX2 22 2 8 2 := ⟨RX2, TX2, 9, rfl, in_X2, gd_1 184 (by decide +kernel) rfl, by decide, rfl, rfl⟩
theorem p_X2_22 : FP RX2 22 2 8 2 false (.object "TooMany$Flight") := ⟨RX2, TX2, 9, tyX2, rfl, in_X2, gd_1 184 (by decide +kernel) rfl, by decide, rfl, rfl, tyX2_ok, nmX2, rfl, rfl, rfl⟩
theorem f_X3_114 : FF RX3 114 2 8 2 := ⟨RX2, TX2, 9, rfl, in_X2, gd_1 185 (by decide +kernel) rfl, by decide, rfl, rfl⟩
theorem p_X3_114 : FP RX3 114 2 8 2 false (.object "TooMany$Flight") := ⟨RX2, TX2, 9, tyX2, rfl, in_X2, gd_1 185 (by decide +kernel) rfl, by decide, rfl, rfl, tyX2_ok, nmX2, rfl, rfl, rfl⟩
theorem f_X4_9 : FF RX4 9 4 0 104 := ⟨RX4, TX4, 20, rfl, in_X4, gd_3 70 (by decide +kernel) rfl, by decide, rfl, rfl⟩
theorem p_X4_9 : FP RX4 9 4 0 104 true (.array .int) := ⟨RX4, TX4, 20, tyX4, rfl, in_X4, gd_3 70 (by decide +kernel) rfl, by decide, rfl, rfl, tyX4_ok, nmX4, rfl, rfl, rfl⟩
theorem f_X4_56 : FF RX4 56 4 1 0 := ⟨RX4, TX4, 20, rfl, in_X4, gd_3 71 (by decide +kernel) rfl, by decide, rfl, rfl⟩
theorem p_X4_56 : FP RX4 56 4 1 0 false .int := ⟨RX4, TX4, 20, tyX4, rfl, in_X4, gd_3 71 (by decide +kernel) rfl, by decide, rfl, rfl, tyX4_ok, nmX4, rfl, rfl, rfl⟩
theorem f_X4_13 : FF RX4 13 4 2 105 := ⟨RX4, TX4, 20, rfl, in_X4, gd_3 72 (by decide +kernel) rfl, by decide, rfl, rfl⟩
theorem p_X4_13 : FP RX4 13 4 2 105 true (.array .int) := ⟨RX4, TX4, 20, tyX4, rfl, in_X4, gd_3 72 (by decide +kernel) rfl, by decide, rfl, rfl, tyX4_ok, nmX4, rfl, rfl, rfl⟩
theorem f_X4_63 : FF RX4 63 4 3 0 := ⟨RX4, TX4, 20, rfl, in_X4, gd_3 73 (by decide +kernel) rfl, by decide, rfl, rfl⟩
theorem p_X4_63 : FP RX4 63 4 3 0 false .int := ⟨RX4, TX4, 20, tyX4, rfl, in_X4, gd_3 73 (by decide +kernel) rfl, by decide, rfl, rfl, tyX4_ok, nmX4, rfl, rfl, rfl⟩
theorem f_X4_16 : FF RX4 16 4 4 106 := ⟨RX4, TX4, 20, rfl, in_X4, gd_3 74 (by decide +kernel) rfl, by decide, rfl, rfl⟩
theorem p_X4_16 : FP RX4 16 4 4 106 true (.array .int) := ⟨RX4, TX4, 20, tyX4, rfl, in_X4, gd_3 74 (by decide +kernel) rfl, by decide, rfl, rfl, tyX4_ok, nmX4, rfl, rfl, rfl⟩
theorem f_X4_52 : FF RX4 52 4 5 0 := ⟨RX4, TX4, 20, rfl, in_X4, gd_3 75 (by decide +kernel) rfl, by decide, rfl, rfl⟩
theorem p_X4_52 : FP RX4 52 4 5 0 false .int := ⟨RX4, TX4, 20, tyX4, rfl, in_X4, gd_3 75 (by decide +kernel) rfl, by decide, rfl, rfl, tyX4_ok, nmX4, rfl, rfl, rfl⟩
theorem f_X4_19 : FF RX4 19 4 6 107 := ⟨RX4, TX4, 20, rfl, in_X4, gd_3 76 (by decide +kernel) rfl, by decide, rfl, rfl⟩
theorem p_X4_19 : FP RX4 19 4 6 107 true (.array .int) := ⟨RX4, TX4, 20, tyX4, rfl, in_X4, gd_3 76 (by decide +kernel) rfl, by decide, rfl, rfl, tyX4_ok, nmX4, rfl, rfl, rfl⟩
theorem f_X4_22 : FF RX4 22 4 7 108 := ⟨RX4, TX4, 20, rfl, in_X4, gd_3 77 (by decide +kernel) rfl, by decide, rfl, rfl⟩
theorem p_X4_22 : FP RX4 22 4 7 108 true (.array .int) := ⟨RX4, TX4, 20, tyX4, rfl, in_X4, gd_3 77 (by decide +kernel) rfl, by decide, rfl, rfl, tyX4_ok, nmX4, rfl, rfl, rfl⟩
theorem f_X4_25 : FF RX4 25 4 8 109 := ⟨RX4, TX4, 20, rfl, in_X4, gd_3 78 (by decide +kernel) rfl, by decide, rfl, rfl⟩
theorem p_X4_25 : FP RX4 25 4 8 109 true (.array .int) := ⟨RX4, TX4, 20, tyX4, rfl, in_X4, gd_3 78 (by decide +kernel) rfl, by decide, rfl, rfl, tyX4_ok, nmX4, rfl, rfl, rfl⟩
theorem f_X4_121 : FF RX4 121 4 9 0 := ⟨RX4, TX4, 20, rfl, in_X4, gd_3 79 (by decide +kernel) rfl, by decide, rfl, rfl⟩
theorem p_X4_121 : FP RX4 121 4 9 0 false .int := ⟨RX4, TX4, 20, tyX4, rfl, in_X4, gd_3 79 (by decide +kernel) rfl, by decide, rfl, rfl, tyX4_ok, nmX4, rfl, rfl, rfl⟩
theorem f_X4_28 : FF RX4 28 4 10 110 := ⟨RX4, TX4, 20, rfl, in_X4, gd_3 80 (by decide +kernel) rfl, by decide, rfl, rfl⟩
theorem p_X4_28 : FP RX4 28 4 10 110 true (.array .int) := ⟨RX4, TX4, 20, tyX4, rfl, in_X4, gd_3 80 (by decide +kernel) rfl, by decide, rfl, rfl, tyX4_ok, nmX4, rfl, rfl, rfl⟩
theorem f_X4_31 : FF RX4 31 4 11 111 := ⟨RX4, TX4, 20, rfl, in_X4, gd_3 81 (by decide +kernel) rfl, by decide, rfl, rfl⟩
theorem p_X4_31 : FP RX4 31 4 11 111 true (.array .int) := ⟨RX4, TX4, 20, tyX4, rfl, in_X4, gd_3 81 (by decide +kernel) rfl, by decide, rfl, rfl, tyX4_ok, nmX4, rfl, rfl, rfl⟩
theorem f_X4_34 : FF RX4 34 4 12 112 := ⟨RX4, TX4, 20, rfl, in_X4, gd_3 82 (by decide +kernel) rfl, by decide, rfl, rfl⟩
theorem p_X4_34 : FP RX4 34 4 12 112 true (.array .int) := ⟨RX4, TX4, 20, tyX4, rfl, in_X4, gd_3 82 (by decide +kernel) rfl, by decide, rfl, rfl, tyX4_ok, nmX4, rfl, rfl, rfl⟩
theorem f_X4_37 : FF RX4 37 4 13 113 := ⟨RX4, TX4, 20, rfl, in_X4, gd_3 83 (by decide +kernel) rfl, by decide, rfl, rfl⟩
theorem p_X4_37 : FP RX4 37 4 13 113 true (.array .int) := ⟨RX4, TX4, 20, tyX4, rfl, in_X4, gd_3 83 (by decide +kernel) rfl, by decide, rfl, rfl, tyX4_ok, nmX4, rfl, rfl, rfl⟩
theorem f_X4_40 : FF RX4 40 4 14 114 := ⟨RX4, TX4, 20, rfl, in_X4, gd_3 84 (by decide +kernel) rfl, by decide, rfl, rfl⟩
theorem p_X4_40 : FP RX4 40 4 14 114 true (.array .int) := ⟨RX4, TX4, 20, tyX4, rfl, in_X4, gd_3 84 (by decide +kernel) rfl, by decide, rfl, rfl, tyX4_ok, nmX4, rfl, rfl, rfl⟩
theorem f_X4_43 : FF RX4 43 4 15 115 := ⟨RX4, TX4, 20, rfl, in_X4, gd_3 85 (by decide +kernel) rfl, by decide, rfl, rfl⟩
theorem p_X4_43 : FP RX4 43 4 15 115 true (.array .int) := ⟨RX4, TX4, 20, tyX4, rfl, in_X4, gd_3 85 (by decide +kernel) rfl, by decide, rfl, rfl, tyX4_ok, nmX4, rfl, rfl, rfl⟩
theorem f_X4_46 : FF RX4 46 4 16 116 := ⟨RX4, TX4, 20, rfl, in_X4, gd_3 86 (by decide +kernel) rfl, by decide, rfl, rfl⟩
theorem p_X4_46 : FP RX4 46 4 16 116 true (.array .int) := ⟨RX4, TX4, 20, tyX4, rfl, in_X4, gd_3 86 (by decide +kernel) rfl, by decide, rfl, rfl, tyX4_ok, nmX4, rfl, rfl, rfl⟩
theorem f_X4_49 : FF RX4 49 4 17 117 := ⟨RX4, TX4, 20, rfl, in_X4, gd_3 87 (by decide +kernel) rfl, by decide, rfl, rfl⟩
theorem p_X4_49 : FP RX4 49 4 17 117 true (.array .int) := ⟨RX4, TX4, 20, tyX4, rfl, in_X4, gd_3 87 (by decide +kernel) rfl, by decide, rfl, rfl, tyX4_ok, nmX4, rfl, rfl, rfl⟩
theorem f_X4_124 : FF RX4 124 4 18 0 := ⟨RX4, TX4, 20, rfl, in_X4, gd_3 88 (by decide +kernel) rfl, by decide, rfl, rfl⟩
theorem p_X4_124 : FP RX4 124 4 18 0 false .int := ⟨RX4, TX4, 20, tyX4, rfl, in_X4, gd_3 88 (by decide +kernel) rfl, by decide, rfl, rfl, tyX4_ok, nmX4, rfl, rfl, rfl⟩
theorem f_X4_127 : FF RX4 127 4 19 0 := ⟨RX4, TX4, 20, rfl, in_X4, gd_3 89 (by decide +kernel) rfl, by decide, rfl, rfl⟩
theorem p_X4_127 : FP RX4 127 4 19 0 false .int := ⟨RX4, TX4, 20, tyX4, rfl, in_X4, gd_3 89 (by decide +kernel) rfl, by decide, rfl, rfl, tyX4_ok, nmX4, rfl, rfl, rfl⟩
theorem w0_X3_init : W0 yX3_init cX3_init 1 none 0 := ⟨gd_1 1 (by decide +kernel) rfl, gd_1 15 rfl rfl, by decide +kernel, by decide⟩
theorem ci_L_15 : WI RL 15 yX3_init cX3_init 1 0 := ⟨w0_X3_init, gd_1 13 (by decide +kernel) rfl, gd_1 14 (by decide +kernel) rfl, rfl⟩
theorem w0_X3_flight : W0 yX3_flight cX3_flight 8 (some .int) 6 := ⟨gd_1 1 (by decide +kernel) rfl, gd_1 101 rfl rfl, by decide +kernel, by decide⟩
theorem cv_L_19 : WV RL 19 yX3_flight cX3_flight 8 (some .int) 6 3 := ⟨w0_X3_flight, gd_1 98 (by decide +kernel) rfl, gd_1 99 (by decide +kernel) rfl, gd_1 100 (by decide +kernel) rfl, TX3, 8, rfl⟩
theorem w0_X3_within : W0 yX3_within cX3_within 3 (some .boolean) 3 := ⟨gd_1 1 (by decide +kernel) rfl, gd_1 104 rfl rfl, by decide +kernel, by decide⟩
theorem cs_X3_46 : WS RX3 46 yX3_within cX3_within 3 (some .boolean) 3 := ⟨w0_X3_within, gd_1 102 (by decide +kernel) rfl, gd_1 103 (by decide +kernel) rfl, rfl⟩
theorem w0_X0_init : W0 yX0_init cX0_init 8 none 7 := ⟨gd_1 4 (by decide +kernel) rfl, gd_1 108 rfl rfl, by decide +kernel, by decide⟩
theorem ci_X3_50 : WI RX3 50 yX0_init cX0_init 8 7 := ⟨w0_X0_init, gd_1 106 (by decide +kernel) rfl, gd_1 107 (by decide +kernel) rfl, rfl⟩
theorem w0_X3_off : W0 yX3_off cX3_off 4 (some .boolean) 2 := ⟨gd_1 1 (by decide +kernel) rfl, gd_1 152 rfl rfl, by decide +kernel, by decide⟩
theorem cv_L_24 : WV RL 24 yX3_off cX3_off 4 (some .boolean) 2 3 := ⟨w0_X3_off, gd_1 149 (by decide +kernel) rfl, gd_1 150 (by decide +kernel) rfl, gd_1 151 (by decide +kernel) rfl, TX3, 8, rfl⟩
theorem w0_X3_flightAt : W0 yX3_flightAt cX3_flightAt 2 (some (.object "TooMany$Flight")) 1 := ⟨gd_1 1 (by decide +kernel) rfl, gd_1 156 rfl rfl, by decide +kernel, by decide⟩
theorem cv_X3_53 : WV RX3 53 yX3_flightAt cX3_flightAt 2 (some (.object "TooMany$Flight")) 1 3 := ⟨w0_X3_flightAt, gd_1 153 (by decide +kernel) rfl, gd_1 155 (by decide +kernel) rfl, gd_s 0 (by decide +kernel) rfl, TX3, 8, rfl⟩
theorem w0_X3_party : W0 yX3_party cX3_party 8 (some .int) 5 := ⟨gd_1 1 (by decide +kernel) rfl, gd_1 160 rfl rfl, by decide +kernel, by decide⟩
theorem cv_L_29 : WV RL 29 yX3_party cX3_party 8 (some .int) 5 3 := ⟨w0_X3_party, gd_1 157 (by decide +kernel) rfl, gd_1 158 (by decide +kernel) rfl, gd_1 159 (by decide +kernel) rfl, TX3, 8, rfl⟩
theorem w0_X2_init : W0 yX2_init cX2_init 6 none 5 := ⟨gd_1 5 (by decide +kernel) rfl, gd_1 164 rfl rfl, by decide +kernel, by decide⟩
theorem ci_X3_61 : WI RX3 61 yX2_init cX2_init 6 5 := ⟨w0_X2_init, gd_1 162 (by decide +kernel) rfl, gd_1 163 (by decide +kernel) rfl, rfl⟩
theorem w0_X3_set : W0 yX3_set cX3_set 5 (some .int) 2 := ⟨gd_1 1 (by decide +kernel) rfl, gd_1 208 rfl rfl, by decide +kernel, by decide⟩
theorem cv_L_34 : WV RL 34 yX3_set cX3_set 5 (some .int) 2 3 := ⟨w0_X3_set, gd_1 205 (by decide +kernel) rfl, gd_1 206 (by decide +kernel) rfl, gd_1 207 (by decide +kernel) rfl, TX3, 8, rfl⟩
theorem w0_X3_setChange : W0 yX3_setChange cX3_setChange 3 (some .int) 1 := ⟨gd_1 1 (by decide +kernel) rfl, gd_1 212 rfl rfl, by decide +kernel, by decide⟩
theorem cv_X3_64 : WV RX3 64 yX3_setChange cX3_setChange 3 (some .int) 1 3 := ⟨w0_X3_setChange, gd_1 209 (by decide +kernel) rfl, gd_1 211 (by decide +kernel) rfl, gd_s 1 (by decide +kernel) rfl, TX3, 8, rfl⟩
theorem w0_X3_told : W0 yX3_told cX3_told 4 (some .int) 2 := ⟨gd_1 1 (by decide +kernel) rfl, gd_1 216 rfl rfl, by decide +kernel, by decide⟩
theorem cv_L_38 : WV RL 38 yX3_told cX3_told 4 (some .int) 2 3 := ⟨w0_X3_told, gd_1 213 (by decide +kernel) rfl, gd_1 214 (by decide +kernel) rfl, gd_1 215 (by decide +kernel) rfl, TX3, 8, rfl⟩
theorem w0_X3_loadOf : W0 yX3_loadOf cX3_loadOf 5 (some .int) 1 := ⟨gd_1 1 (by decide +kernel) rfl, gd_1 220 rfl rfl, by decide +kernel, by decide⟩
theorem cv_X3_68 : WV RX3 68 yX3_loadOf cX3_loadOf 5 (some .int) 1 3 := ⟨w0_X3_loadOf, gd_1 217 (by decide +kernel) rfl, gd_1 219 (by decide +kernel) rfl, gd_s 2 (by decide +kernel) rfl, TX3, 8, rfl⟩
theorem w0_X2_fliesOn : W0 yX2_fliesOn cX2_fliesOn 2 (some .boolean) 1 := ⟨gd_1 5 (by decide +kernel) rfl, gd_1 224 rfl rfl, by decide +kernel, by decide⟩
theorem cv_X3_218 : WV RX3 218 yX2_fliesOn cX2_fliesOn 2 (some .boolean) 1 2 := ⟨w0_X2_fliesOn, gd_1 221 (by decide +kernel) rfl, gd_1 222 (by decide +kernel) rfl, gd_1 223 (by decide +kernel) rfl, TX2, 9, rfl⟩
theorem w0_X3_overOf : W0 yX3_overOf cX3_overOf 3 (some .int) 1 := ⟨gd_1 1 (by decide +kernel) rfl, gd_1 228 rfl rfl, by decide +kernel, by decide⟩
theorem cv_X3_72 : WV RX3 72 yX3_overOf cX3_overOf 3 (some .int) 1 3 := ⟨w0_X3_overOf, gd_1 225 (by decide +kernel) rfl, gd_1 227 (by decide +kernel) rfl, gd_s 3 (by decide +kernel) rfl, TX3, 8, rfl⟩
theorem w0_J9_max_7cf53 : W0 yJ9_max_7cf53 cJ9_max_7cf53 2 (some .int) 2 := ⟨gd_1 6 (by decide +kernel) rfl, gd_1 231 rfl rfl, by decide +kernel, by decide⟩
theorem cm_X3_221 : Cond.methodLink RX3 221 Lib.Math.max.name ∈ gd ∧ Cond.static Lib.Math.max.name ∈ gd ∧ Cond.initialized "java/lang/Math" ∈ gd ∧ Cond.code Lib.Math.max.name Lib.Math.max.code 2 (some .int) ∈ gd := ⟨gd_1 229 (by decide +kernel) rfl, gd_1 230 (by decide +kernel) rfl, gd_1 6 (by decide +kernel) rfl, gd_1 231 rfl rfl⟩
theorem w0_X3_mustPeople : W0 yX3_mustPeople cX3_mustPeople 4 (some .int) 1 := ⟨gd_1 1 (by decide +kernel) rfl, gd_1 235 rfl rfl, by decide +kernel, by decide⟩
theorem cv_X3_78 : WV RX3 78 yX3_mustPeople cX3_mustPeople 4 (some .int) 1 3 := ⟨w0_X3_mustPeople, gd_1 232 (by decide +kernel) rfl, gd_1 234 (by decide +kernel) rfl, gd_s 4 (by decide +kernel) rfl, TX3, 8, rfl⟩
theorem w0_X3_count : W0 yX3_count cX3_count 2 (some .int) 1 := ⟨gd_1 1 (by decide +kernel) rfl, gd_1 239 rfl rfl, by decide +kernel, by decide⟩
theorem cv_L_52 : WV RL 52 yX3_count cX3_count 2 (some .int) 1 3 := ⟨w0_X3_count, gd_1 236 (by decide +kernel) rfl, gd_1 237 (by decide +kernel) rfl, gd_1 238 (by decide +kernel) rfl, TX3, 8, rfl⟩
theorem w0_X3_flyingPeople : W0 yX3_flyingPeople cX3_flyingPeople 3 (some .int) 0 := ⟨gd_1 1 (by decide +kernel) rfl, gd_2 3 rfl rfl, by decide +kernel, by decide⟩
theorem cv_X3_127 : WV RX3 127 yX3_flyingPeople cX3_flyingPeople 3 (some .int) 0 3 := ⟨w0_X3_flyingPeople, gd_2 0 (by decide +kernel) rfl, gd_2 2 (by decide +kernel) rfl, gd_s 5 (by decide +kernel) rfl, TX3, 8, rfl⟩
theorem w0_X3_peopleIn : W0 yX3_peopleIn cX3_peopleIn 4 (some .int) 1 := ⟨gd_1 1 (by decide +kernel) rfl, gd_2 7 rfl rfl, by decide +kernel, by decide⟩
theorem cv_X3_130 : WV RX3 130 yX3_peopleIn cX3_peopleIn 4 (some .int) 1 3 := ⟨w0_X3_peopleIn, gd_2 4 (by decide +kernel) rfl, gd_2 6 (by decide +kernel) rfl, gd_s 6 (by decide +kernel) rfl, TX3, 8, rfl⟩
theorem w0_X3_peopleWithWay : W0 yX3_peopleWithWay cX3_peopleWithWay 3 (some .int) 0 := ⟨gd_1 1 (by decide +kernel) rfl, gd_2 11 rfl rfl, by decide +kernel, by decide⟩
theorem cv_X3_133 : WV RX3 133 yX3_peopleWithWay cX3_peopleWithWay 3 (some .int) 0 3 := ⟨w0_X3_peopleWithWay, gd_2 8 (by decide +kernel) rfl, gd_2 10 (by decide +kernel) rfl, gd_s 7 (by decide +kernel) rfl, TX3, 8, rfl⟩
theorem w0_X3_allClaims : W0 yX3_allClaims cX3_allClaims 3 (some .int) 0 := ⟨gd_1 1 (by decide +kernel) rfl, gd_2 15 rfl rfl, by decide +kernel, by decide⟩
theorem cv_X3_136 : WV RX3 136 yX3_allClaims cX3_allClaims 3 (some .int) 0 3 := ⟨w0_X3_allClaims, gd_2 12 (by decide +kernel) rfl, gd_2 14 (by decide +kernel) rfl, gd_s 8 (by decide +kernel) rfl, TX3, 8, rfl⟩
theorem w0_X3_claimOf : W0 yX3_claimOf cX3_claimOf 4 (some .int) 1 := ⟨gd_1 1 (by decide +kernel) rfl, gd_2 19 rfl rfl, by decide +kernel, by decide⟩
theorem cv_X3_121 : WV RX3 121 yX3_claimOf cX3_claimOf 4 (some .int) 1 3 := ⟨w0_X3_claimOf, gd_2 16 (by decide +kernel) rfl, gd_2 18 (by decide +kernel) rfl, gd_s 9 (by decide +kernel) rfl, TX3, 8, rfl⟩
theorem w0_X3_baseFee : W0 yX3_baseFee cX3_baseFee 2 (some .int) 1 := ⟨gd_1 1 (by decide +kernel) rfl, gd_2 23 rfl rfl, by decide +kernel, by decide⟩
theorem cv_X3_233 : WV RX3 233 yX3_baseFee cX3_baseFee 2 (some .int) 1 3 := ⟨w0_X3_baseFee, gd_2 20 (by decide +kernel) rfl, gd_2 22 (by decide +kernel) rfl, gd_s 10 (by decide +kernel) rfl, TX3, 8, rfl⟩
theorem w0_X2_lateByWay : W0 yX2_lateByWay cX2_lateByWay 1 (some .int) 0 := ⟨gd_1 5 (by decide +kernel) rfl, gd_2 27 rfl rfl, by decide +kernel, by decide⟩
theorem cv_X3_117 : WV RX3 117 yX2_lateByWay cX2_lateByWay 1 (some .int) 0 2 := ⟨w0_X2_lateByWay, gd_2 24 (by decide +kernel) rfl, gd_2 25 (by decide +kernel) rfl, gd_2 26 (by decide +kernel) rfl, TX2, 9, rfl⟩
theorem w0_X2_lateBy : W0 yX2_lateBy cX2_lateBy 4 (some .int) 2 := ⟨gd_1 5 (by decide +kernel) rfl, gd_2 31 rfl rfl, by decide +kernel, by decide⟩
theorem cv_X2_64 : WV RX2 64 yX2_lateBy cX2_lateBy 4 (some .int) 2 2 := ⟨w0_X2_lateBy, gd_2 28 (by decide +kernel) rfl, gd_2 29 (by decide +kernel) rfl, gd_2 30 (by decide +kernel) rfl, TX2, 9, rfl⟩
theorem cm_X2_58 : Cond.methodLink RX2 58 Lib.Math.max.name ∈ gd ∧ Cond.static Lib.Math.max.name ∈ gd ∧ Cond.initialized "java/lang/Math" ∈ gd ∧ Cond.code Lib.Math.max.name Lib.Math.max.code 2 (some .int) ∈ gd := ⟨gd_2 32 (by decide +kernel) rfl, gd_1 230 (by decide +kernel) rfl, gd_1 6 (by decide +kernel) rfl, gd_1 231 rfl rfl⟩
theorem w0_X3_cost : W0 yX3_cost cX3_cost 5 (some .int) 1 := ⟨gd_1 1 (by decide +kernel) rfl, gd_2 36 rfl rfl, by decide +kernel, by decide⟩
theorem cv_L_57 : WV RL 57 yX3_cost cX3_cost 5 (some .int) 1 3 := ⟨w0_X3_cost, gd_2 33 (by decide +kernel) rfl, gd_2 34 (by decide +kernel) rfl, gd_2 35 (by decide +kernel) rfl, TX3, 8, rfl⟩
theorem w0_X3_cheapestDeal : W0 yX3_cheapestDeal cX3_cheapestDeal 6 (some .long) 2 := ⟨gd_1 1 (by decide +kernel) rfl, gd_2 40 rfl rfl, by decide +kernel, by decide⟩
theorem cv_X3_139 : WV RX3 139 yX3_cheapestDeal cX3_cheapestDeal 6 (some .long) 2 3 := ⟨w0_X3_cheapestDeal, gd_2 37 (by decide +kernel) rfl, gd_2 39 (by decide +kernel) rfl, gd_s 11 (by decide +kernel) rfl, TX3, 8, rfl⟩
theorem w0_X2_wouldGive : W0 yX2_wouldGive cX2_wouldGive 2 (some .boolean) 1 := ⟨gd_1 5 (by decide +kernel) rfl, gd_2 45 rfl rfl, by decide +kernel, by decide⟩
theorem cv_X3_238 : WV RX3 238 yX2_wouldGive cX2_wouldGive 2 (some .boolean) 1 2 := ⟨w0_X2_wouldGive, gd_2 42 (by decide +kernel) rfl, gd_2 43 (by decide +kernel) rfl, gd_2 44 (by decide +kernel) rfl, TX2, 9, rfl⟩
theorem cv_X2_41 : WV RX2 41 yX2_fliesOn cX2_fliesOn 2 (some .boolean) 1 2 := ⟨w0_X2_fliesOn, gd_2 46 (by decide +kernel) rfl, gd_1 222 (by decide +kernel) rfl, gd_1 223 (by decide +kernel) rfl, TX2, 9, rfl⟩
theorem w0_X3_offerDeals : W0 yX3_offerDeals cX3_offerDeals 8 none 3 := ⟨gd_1 1 (by decide +kernel) rfl, gd_2 50 rfl rfl, by decide +kernel, by decide⟩
theorem cv_X3_241 : WV RX3 241 yX3_offerDeals cX3_offerDeals 8 none 3 3 := ⟨w0_X3_offerDeals, gd_2 47 (by decide +kernel) rfl, gd_2 49 (by decide +kernel) rfl, gd_s 12 (by decide +kernel) rfl, TX3, 8, rfl⟩
theorem w0_X3_leastDeal : W0 yX3_leastDeal cX3_leastDeal 8 (some .long) 2 := ⟨gd_1 1 (by decide +kernel) rfl, gd_2 54 rfl rfl, by decide +kernel, by decide⟩
theorem cv_X3_245 : WV RX3 245 yX3_leastDeal cX3_leastDeal 8 (some .long) 2 3 := ⟨w0_X3_leastDeal, gd_2 51 (by decide +kernel) rfl, gd_2 53 (by decide +kernel) rfl, gd_s 13 (by decide +kernel) rfl, TX3, 8, rfl⟩
theorem w0_X3_coinOfDeal : W0 yX3_coinOfDeal cX3_coinOfDeal 2 (some .int) 1 := ⟨gd_1 1 (by decide +kernel) rfl, gd_2 57 rfl rfl, by decide +kernel, by decide⟩
theorem cs_X3_143 : WS RX3 143 yX3_coinOfDeal cX3_coinOfDeal 2 (some .int) 1 := ⟨w0_X3_coinOfDeal, gd_2 55 (by decide +kernel) rfl, gd_2 56 (by decide +kernel) rfl, rfl⟩
theorem w0_X3_buy : W0 yX3_buy cX3_buy 6 (some .int) 1 := ⟨gd_1 1 (by decide +kernel) rfl, gd_2 61 rfl rfl, by decide +kernel, by decide⟩
theorem cv_L_61 : WV RL 61 yX3_buy cX3_buy 6 (some .int) 1 3 := ⟨w0_X3_buy, gd_2 58 (by decide +kernel) rfl, gd_2 59 (by decide +kernel) rfl, gd_2 60 (by decide +kernel) rfl, TX3, 8, rfl⟩
theorem w0_X3_has : W0 yX3_has cX3_has 3 (some .boolean) 2 := ⟨gd_1 1 (by decide +kernel) rfl, gd_2 64 rfl rfl, by decide +kernel, by decide⟩
theorem cs_X3_147 : WS RX3 147 yX3_has cX3_has 3 (some .boolean) 2 := ⟨w0_X3_has, gd_2 62 (by decide +kernel) rfl, gd_2 63 (by decide +kernel) rfl, rfl⟩
theorem w0_X2_giveUp : W0 yX2_giveUp cX2_giveUp 3 none 2 := ⟨gd_1 5 (by decide +kernel) rfl, gd_2 68 rfl rfl, by decide +kernel, by decide⟩
theorem cv_X3_154 : WV RX3 154 yX2_giveUp cX2_giveUp 3 none 2 2 := ⟨w0_X2_giveUp, gd_2 65 (by decide +kernel) rfl, gd_2 66 (by decide +kernel) rfl, gd_2 67 (by decide +kernel) rfl, TX2, 9, rfl⟩
theorem w0_X3_rounds : W0 yX3_rounds cX3_rounds 9 (some .int) 3 := ⟨gd_1 1 (by decide +kernel) rfl, gd_2 72 rfl rfl, by decide +kernel, by decide⟩
theorem cv_L_65 : WV RL 65 yX3_rounds cX3_rounds 9 (some .int) 3 3 := ⟨w0_X3_rounds, gd_2 69 (by decide +kernel) rfl, gd_2 70 (by decide +kernel) rfl, gd_2 71 (by decide +kernel) rfl, TX3, 8, rfl⟩
theorem w0_X3_lowestBidders : W0 yX3_lowestBidders cX3_lowestBidders 7 (some .int) 2 := ⟨gd_1 1 (by decide +kernel) rfl, gd_2 76 rfl rfl, by decide +kernel, by decide⟩
theorem cv_X3_158 : WV RX3 158 yX3_lowestBidders cX3_lowestBidders 7 (some .int) 2 3 := ⟨w0_X3_lowestBidders, gd_2 73 (by decide +kernel) rfl, gd_2 75 (by decide +kernel) rfl, gd_s 14 (by decide +kernel) rfl, TX3, 8, rfl⟩
theorem w0_X3_nextBidder : W0 yX3_nextBidder cX3_nextBidder 5 (some .int) 2 := ⟨gd_1 1 (by decide +kernel) rfl, gd_2 80 rfl rfl, by decide +kernel, by decide⟩
theorem cv_X3_249 : WV RX3 249 yX3_nextBidder cX3_nextBidder 5 (some .int) 2 3 := ⟨w0_X3_nextBidder, gd_2 77 (by decide +kernel) rfl, gd_2 79 (by decide +kernel) rfl, gd_s 15 (by decide +kernel) rfl, TX3, 8, rfl⟩
theorem w0_X3_highestBid : W0 yX3_highestBid cX3_highestBid 4 (some .int) 1 := ⟨gd_1 1 (by decide +kernel) rfl, gd_2 84 rfl rfl, by decide +kernel, by decide⟩
theorem cv_X3_162 : WV RX3 162 yX3_highestBid cX3_highestBid 4 (some .int) 1 3 := ⟨w0_X3_highestBid, gd_2 81 (by decide +kernel) rfl, gd_2 83 (by decide +kernel) rfl, gd_s 16 (by decide +kernel) rfl, TX3, 8, rfl⟩
theorem w0_X3_firstOffer : W0 yX3_firstOffer cX3_firstOffer 4 (some .int) 3 := ⟨gd_1 1 (by decide +kernel) rfl, gd_2 87 rfl rfl, by decide +kernel, by decide⟩
theorem cs_X3_165 : WS RX3 165 yX3_firstOffer cX3_firstOffer 4 (some .int) 3 := ⟨w0_X3_firstOffer, gd_2 85 (by decide +kernel) rfl, gd_2 86 (by decide +kernel) rfl, rfl⟩
theorem w0_X3_leave : W0 yX3_leave cX3_leave 7 (some .int) 1 := ⟨gd_1 1 (by decide +kernel) rfl, gd_2 91 rfl rfl, by decide +kernel, by decide⟩
theorem cv_L_70 : WV RL 70 yX3_leave cX3_leave 7 (some .int) 1 3 := ⟨w0_X3_leave, gd_2 88 (by decide +kernel) rfl, gd_2 89 (by decide +kernel) rfl, gd_2 90 (by decide +kernel) rfl, TX3, 8, rfl⟩
theorem w0_X3_leavablePeople : W0 yX3_leavablePeople cX3_leavablePeople 4 (some .int) 1 := ⟨gd_1 1 (by decide +kernel) rfl, gd_2 95 rfl rfl, by decide +kernel, by decide⟩
theorem cv_X3_169 : WV RX3 169 yX3_leavablePeople cX3_leavablePeople 4 (some .int) 1 3 := ⟨w0_X3_leavablePeople, gd_2 92 (by decide +kernel) rfl, gd_2 94 (by decide +kernel) rfl, gd_s 17 (by decide +kernel) rfl, TX3, 8, rfl⟩
theorem w0_X3_nextToLeave : W0 yX3_nextToLeave cX3_nextToLeave 5 (some (.object "TooMany$Party")) 1 := ⟨gd_1 1 (by decide +kernel) rfl, gd_2 99 rfl rfl, by decide +kernel, by decide⟩
theorem cv_X3_172 : WV RX3 172 yX3_nextToLeave cX3_nextToLeave 5 (some (.object "TooMany$Party")) 1 3 := ⟨w0_X3_nextToLeave, gd_2 96 (by decide +kernel) rfl, gd_2 98 (by decide +kernel) rfl, gd_s 18 (by decide +kernel) rfl, TX3, 8, rfl⟩
theorem w0_X3_back : W0 yX3_back cX3_back 3 (some .boolean) 1 := ⟨gd_1 1 (by decide +kernel) rfl, gd_2 103 rfl rfl, by decide +kernel, by decide⟩
theorem cv_L_74 : WV RL 74 yX3_back cX3_back 3 (some .boolean) 1 3 := ⟨w0_X3_back, gd_2 100 (by decide +kernel) rfl, gd_2 101 (by decide +kernel) rfl, gd_2 102 (by decide +kernel) rfl, TX3, 8, rfl⟩
theorem w0_X3_partyAt : W0 yX3_partyAt cX3_partyAt 2 (some (.object "TooMany$Party")) 1 := ⟨gd_1 1 (by decide +kernel) rfl, gd_2 107 rfl rfl, by decide +kernel, by decide⟩
theorem cv_X3_81 : WV RX3 81 yX3_partyAt cX3_partyAt 2 (some (.object "TooMany$Party")) 1 3 := ⟨w0_X3_partyAt, gd_2 104 (by decide +kernel) rfl, gd_2 106 (by decide +kernel) rfl, gd_s 19 (by decide +kernel) rfl, TX3, 8, rfl⟩
theorem w0_X2_flyAgain : W0 yX2_flyAgain cX2_flyAgain 1 none 0 := ⟨gd_1 5 (by decide +kernel) rfl, gd_2 111 rfl rfl, by decide +kernel, by decide⟩
theorem cv_X3_176 : WV RX3 176 yX2_flyAgain cX2_flyAgain 1 none 0 2 := ⟨w0_X2_flyAgain, gd_2 108 (by decide +kernel) rfl, gd_2 109 (by decide +kernel) rfl, gd_2 110 (by decide +kernel) rfl, TX2, 9, rfl⟩
theorem cv_X2_45 : WV RX2 45 yX2_giveUp cX2_giveUp 3 none 2 2 := ⟨w0_X2_giveUp, gd_2 112 (by decide +kernel) rfl, gd_2 66 (by decide +kernel) rfl, gd_2 67 (by decide +kernel) rfl, TX2, 9, rfl⟩
theorem w0_X2_takeWay : W0 yX2_takeWay cX2_takeWay 3 none 2 := ⟨gd_1 5 (by decide +kernel) rfl, gd_2 116 rfl rfl, by decide +kernel, by decide⟩
theorem cv_X2_49 : WV RX2 49 yX2_takeWay cX2_takeWay 3 none 2 2 := ⟨w0_X2_takeWay, gd_2 113 (by decide +kernel) rfl, gd_2 114 (by decide +kernel) rfl, gd_2 115 (by decide +kernel) rfl, TX2, 9, rfl⟩
theorem w0_X3_late : W0 yX3_late cX3_late 7 (some .int) 3 := ⟨gd_1 1 (by decide +kernel) rfl, gd_2 120 rfl rfl, by decide +kernel, by decide⟩
theorem cv_L_79 : WV RL 79 yX3_late cX3_late 7 (some .int) 3 3 := ⟨w0_X3_late, gd_2 117 (by decide +kernel) rfl, gd_2 118 (by decide +kernel) rfl, gd_2 119 (by decide +kernel) rfl, TX3, 8, rfl⟩
theorem w0_X3_isWay : W0 yX3_isWay cX3_isWay 5 (some .boolean) 3 := ⟨gd_1 1 (by decide +kernel) rfl, gd_2 124 rfl rfl, by decide +kernel, by decide⟩
theorem cv_X3_179 : WV RX3 179 yX3_isWay cX3_isWay 5 (some .boolean) 3 3 := ⟨w0_X3_isWay, gd_2 121 (by decide +kernel) rfl, gd_2 123 (by decide +kernel) rfl, gd_s 20 (by decide +kernel) rfl, TX3, 8, rfl⟩
theorem cv_X3_183 : WV RX3 183 yX2_lateBy cX2_lateBy 4 (some .int) 2 2 := ⟨w0_X2_lateBy, gd_2 125 (by decide +kernel) rfl, gd_2 29 (by decide +kernel) rfl, gd_2 30 (by decide +kernel) rfl, TX2, 9, rfl⟩
theorem w0_X3_stranded : W0 yX3_stranded cX3_stranded 3 (some .int) 0 := ⟨gd_1 1 (by decide +kernel) rfl, gd_2 129 rfl rfl, by decide +kernel, by decide⟩
theorem cv_L_83 : WV RL 83 yX3_stranded cX3_stranded 3 (some .int) 0 3 := ⟨w0_X3_stranded, gd_2 126 (by decide +kernel) rfl, gd_2 127 (by decide +kernel) rfl, gd_2 128 (by decide +kernel) rfl, TX3, 8, rfl⟩
theorem w0_X2_isStranded : W0 yX2_isStranded cX2_isStranded 1 (some .boolean) 0 := ⟨gd_1 5 (by decide +kernel) rfl, gd_2 133 rfl rfl, by decide +kernel, by decide⟩
theorem cv_X3_187 : WV RX3 187 yX2_isStranded cX2_isStranded 1 (some .boolean) 0 2 := ⟨w0_X2_isStranded, gd_2 130 (by decide +kernel) rfl, gd_2 131 (by decide +kernel) rfl, gd_2 132 (by decide +kernel) rfl, TX2, 9, rfl⟩
theorem w0_X3_move : W0 yX3_move cX3_move 2 (some .int) 0 := ⟨gd_1 1 (by decide +kernel) rfl, gd_2 137 rfl rfl, by decide +kernel, by decide⟩
theorem cv_L_87 : WV RL 87 yX3_move cX3_move 2 (some .int) 0 3 := ⟨w0_X3_move, gd_2 134 (by decide +kernel) rfl, gd_2 135 (by decide +kernel) rfl, gd_2 136 (by decide +kernel) rfl, TX3, 8, rfl⟩
theorem cv_X3_191 : WV RX3 191 yX3_stranded cX3_stranded 3 (some .int) 0 3 := ⟨w0_X3_stranded, gd_2 138 (by decide +kernel) rfl, gd_2 127 (by decide +kernel) rfl, gd_2 128 (by decide +kernel) rfl, TX3, 8, rfl⟩
theorem w0_X1_begin : W0 yX1_begin cX1_begin 1 none 0 := ⟨gd_1 2 (by decide +kernel) rfl, gd_2 142 rfl rfl, by decide +kernel, by decide⟩
theorem cv_X3_197 : WV RX3 197 yX1_begin cX1_begin 1 none 0 1 := ⟨w0_X1_begin, gd_2 139 (by decide +kernel) rfl, gd_2 140 (by decide +kernel) rfl, gd_2 141 (by decide +kernel) rfl, TX1, 13, rfl⟩
theorem w0_X3_addStranded : W0 yX3_addStranded cX3_addStranded 4 none 1 := ⟨gd_1 1 (by decide +kernel) rfl, gd_2 146 rfl rfl, by decide +kernel, by decide⟩
theorem cv_X3_200 : WV RX3 200 yX3_addStranded cX3_addStranded 4 none 1 3 := ⟨w0_X3_addStranded, gd_2 143 (by decide +kernel) rfl, gd_2 145 (by decide +kernel) rfl, gd_s 21 (by decide +kernel) rfl, TX3, 8, rfl⟩
theorem w0_X1_addParty : W0 yX1_addParty cX1_addParty 3 none 2 := ⟨gd_1 2 (by decide +kernel) rfl, gd_2 150 rfl rfl, by decide +kernel, by decide⟩
theorem cv_X3_267 : WV RX3 267 yX1_addParty cX1_addParty 3 none 2 1 := ⟨w0_X1_addParty, gd_2 147 (by decide +kernel) rfl, gd_2 148 (by decide +kernel) rfl, gd_2 149 (by decide +kernel) rfl, TX1, 13, rfl⟩
theorem w0_X1_lastTwin : W0 yX1_lastTwin cX1_lastTwin 3 (some .int) 1 := ⟨gd_1 2 (by decide +kernel) rfl, gd_2 154 rfl rfl, by decide +kernel, by decide⟩
theorem cv_X1_60 : WV RX1 60 yX1_lastTwin cX1_lastTwin 3 (some .int) 1 1 := ⟨w0_X1_lastTwin, gd_2 151 (by decide +kernel) rfl, gd_2 153 (by decide +kernel) rfl, gd_s 22 (by decide +kernel) rfl, TX1, 13, rfl⟩
theorem w0_X3_addWays : W0 yX3_addWays cX3_addWays 4 none 1 := ⟨gd_1 1 (by decide +kernel) rfl, gd_2 158 rfl rfl, by decide +kernel, by decide⟩
theorem cv_X3_271 : WV RX3 271 yX3_addWays cX3_addWays 4 none 1 3 := ⟨w0_X3_addWays, gd_2 155 (by decide +kernel) rfl, gd_2 157 (by decide +kernel) rfl, gd_s 23 (by decide +kernel) rfl, TX3, 8, rfl⟩
theorem w0_X1_addWay : W0 yX1_addWay cX1_addWay 9 none 2 := ⟨gd_1 2 (by decide +kernel) rfl, gd_2 162 rfl rfl, by decide +kernel, by decide⟩
theorem cv_X3_275 : WV RX3 275 yX1_addWay cX1_addWay 9 none 2 1 := ⟨w0_X1_addWay, gd_2 159 (by decide +kernel) rfl, gd_2 160 (by decide +kernel) rfl, gd_2 161 (by decide +kernel) rfl, TX1, 13, rfl⟩
theorem cv_X1_64 : WV RX1 64 yX2_lateBy cX2_lateBy 4 (some .int) 2 2 := ⟨w0_X2_lateBy, gd_2 163 (by decide +kernel) rfl, gd_2 29 (by decide +kernel) rfl, gd_2 30 (by decide +kernel) rfl, TX2, 9, rfl⟩
theorem w0_X1_worthOf : W0 yX1_worthOf cX1_worthOf 8 (some .long) 3 := ⟨gd_1 2 (by decide +kernel) rfl, gd_2 167 rfl rfl, by decide +kernel, by decide⟩
theorem cv_X1_68 : WV RX1 68 yX1_worthOf cX1_worthOf 8 (some .long) 3 1 := ⟨w0_X1_worthOf, gd_2 164 (by decide +kernel) rfl, gd_2 166 (by decide +kernel) rfl, gd_s 24 (by decide +kernel) rfl, TX1, 13, rfl⟩
theorem w0_X1_putWay : W0 yX1_putWay cX1_putWay 7 none 5 := ⟨gd_1 2 (by decide +kernel) rfl, gd_2 172 rfl rfl, by decide +kernel, by decide⟩
theorem cv_X1_72 : WV RX1 72 yX1_putWay cX1_putWay 7 none 5 1 := ⟨w0_X1_putWay, gd_2 169 (by decide +kernel) rfl, gd_2 171 (by decide +kernel) rfl, gd_s 25 (by decide +kernel) rfl, TX1, 13, rfl⟩
theorem w0_X1_findBest : W0 yX1_findBest cX1_findBest 2 none 0 := ⟨gd_1 2 (by decide +kernel) rfl, gd_2 176 rfl rfl, by decide +kernel, by decide⟩
theorem cv_X3_204 : WV RX3 204 yX1_findBest cX1_findBest 2 none 0 1 := ⟨w0_X1_findBest, gd_2 173 (by decide +kernel) rfl, gd_2 174 (by decide +kernel) rfl, gd_2 175 (by decide +kernel) rfl, TX1, 13, rfl⟩
theorem w0_X1_choose : W0 yX1_choose cX1_choose 7 none 2 := ⟨gd_1 2 (by decide +kernel) rfl, gd_2 180 rfl rfl, by decide +kernel, by decide⟩
theorem cv_X1_79 : WV RX1 79 yX1_choose cX1_choose 7 none 2 1 := ⟨w0_X1_choose, gd_2 177 (by decide +kernel) rfl, gd_2 179 (by decide +kernel) rfl, gd_s 26 (by decide +kernel) rfl, TX1, 13, rfl⟩
theorem w0_X1_keepIfBetter : W0 yX1_keepIfBetter cX1_keepIfBetter 4 none 1 := ⟨gd_1 2 (by decide +kernel) rfl, gd_2 184 rfl rfl, by decide +kernel, by decide⟩
theorem cv_X1_92 : WV RX1 92 yX1_keepIfBetter cX1_keepIfBetter 4 none 1 1 := ⟨w0_X1_keepIfBetter, gd_2 181 (by decide +kernel) rfl, gd_2 183 (by decide +kernel) rfl, gd_s 27 (by decide +kernel) rfl, TX1, 13, rfl⟩
theorem w0_X1_mayBeat : W0 yX1_mayBeat cX1_mayBeat 7 (some .boolean) 2 := ⟨gd_1 2 (by decide +kernel) rfl, gd_2 188 rfl rfl, by decide +kernel, by decide⟩
theorem cv_X1_96 : WV RX1 96 yX1_mayBeat cX1_mayBeat 7 (some .boolean) 2 1 := ⟨w0_X1_mayBeat, gd_2 185 (by decide +kernel) rfl, gd_2 187 (by decide +kernel) rfl, gd_s 28 (by decide +kernel) rfl, TX1, 13, rfl⟩
theorem w0_X1_mostWorth : W0 yX1_mostWorth cX1_mostWorth 4 (some .long) 1 := ⟨gd_1 2 (by decide +kernel) rfl, gd_2 192 rfl rfl, by decide +kernel, by decide⟩
theorem cv_X1_115 : WV RX1 115 yX1_mostWorth cX1_mostWorth 4 (some .long) 1 1 := ⟨w0_X1_mostWorth, gd_2 189 (by decide +kernel) rfl, gd_2 191 (by decide +kernel) rfl, gd_s 29 (by decide +kernel) rfl, TX1, 13, rfl⟩
theorem w0_X1_fits : W0 yX1_fits cX1_fits 4 (some .boolean) 2 := ⟨gd_1 2 (by decide +kernel) rfl, gd_2 196 rfl rfl, by decide +kernel, by decide⟩
theorem cv_X1_104 : WV RX1 104 yX1_fits cX1_fits 4 (some .boolean) 2 1 := ⟨w0_X1_fits, gd_2 193 (by decide +kernel) rfl, gd_2 195 (by decide +kernel) rfl, gd_s 30 (by decide +kernel) rfl, TX1, 13, rfl⟩
theorem w0_X1_twinPlace : W0 yX1_twinPlace cX1_twinPlace 3 (some .int) 1 := ⟨gd_1 2 (by decide +kernel) rfl, gd_2 200 rfl rfl, by decide +kernel, by decide⟩
theorem cv_X1_100 : WV RX1 100 yX1_twinPlace cX1_twinPlace 3 (some .int) 1 1 := ⟨w0_X1_twinPlace, gd_2 197 (by decide +kernel) rfl, gd_2 199 (by decide +kernel) rfl, gd_s 31 (by decide +kernel) rfl, TX1, 13, rfl⟩
theorem w0_X1_betterHasRoom : W0 yX1_betterHasRoom cX1_betterHasRoom 5 (some .boolean) 2 := ⟨gd_1 2 (by decide +kernel) rfl, gd_2 204 rfl rfl, by decide +kernel, by decide⟩
theorem cv_X1_108 : WV RX1 108 yX1_betterHasRoom cX1_betterHasRoom 5 (some .boolean) 2 1 := ⟨w0_X1_betterHasRoom, gd_2 201 (by decide +kernel) rfl, gd_2 203 (by decide +kernel) rfl, gd_s 32 (by decide +kernel) rfl, TX1, 13, rfl⟩
theorem w0_X1_hasRoom : W0 yX1_hasRoom cX1_hasRoom 5 (some .boolean) 3 := ⟨gd_1 2 (by decide +kernel) rfl, gd_2 208 rfl rfl, by decide +kernel, by decide⟩
theorem cv_X1_122 : WV RX1 122 yX1_hasRoom cX1_hasRoom 5 (some .boolean) 3 1 := ⟨w0_X1_hasRoom, gd_2 205 (by decide +kernel) rfl, gd_2 207 (by decide +kernel) rfl, gd_s 33 (by decide +kernel) rfl, TX1, 13, rfl⟩
theorem w0_X1_fill : W0 yX1_fill cX1_fill 3 none 2 := ⟨gd_1 2 (by decide +kernel) rfl, gd_2 212 rfl rfl, by decide +kernel, by decide⟩
theorem cv_X1_111 : WV RX1 111 yX1_fill cX1_fill 3 none 2 1 := ⟨w0_X1_fill, gd_2 209 (by decide +kernel) rfl, gd_2 211 (by decide +kernel) rfl, gd_s 34 (by decide +kernel) rfl, TX1, 13, rfl⟩
theorem w0_X1_giveWays : W0 yX1_giveWays cX1_giveWays 4 (some .int) 0 := ⟨gd_1 2 (by decide +kernel) rfl, gd_2 216 rfl rfl, by decide +kernel, by decide⟩
theorem cv_X3_207 : WV RX3 207 yX1_giveWays cX1_giveWays 4 (some .int) 0 1 := ⟨w0_X1_giveWays, gd_2 213 (by decide +kernel) rfl, gd_2 214 (by decide +kernel) rfl, gd_2 215 (by decide +kernel) rfl, TX1, 13, rfl⟩
theorem cv_X1_83 : WV RX1 83 yX2_takeWay cX2_takeWay 3 none 2 2 := ⟨w0_X2_takeWay, gd_2 217 (by decide +kernel) rfl, gd_2 114 (by decide +kernel) rfl, gd_2 115 (by decide +kernel) rfl, TX2, 9, rfl⟩
theorem w0_X3_undo : W0 yX3_undo cX3_undo 4 (some .int) 0 := ⟨gd_1 1 (by decide +kernel) rfl, gd_2 221 rfl rfl, by decide +kernel, by decide⟩
theorem cv_L_91 : WV RL 91 yX3_undo cX3_undo 4 (some .int) 0 3 := ⟨w0_X3_undo, gd_2 218 (by decide +kernel) rfl, gd_2 219 (by decide +kernel) rfl, gd_2 220 (by decide +kernel) rfl, TX3, 8, rfl⟩
theorem w0_X3_isOffFlight : W0 yX3_isOffFlight cX3_isOffFlight 1 (some .boolean) 1 := ⟨gd_1 1 (by decide +kernel) rfl, gd_2 224 rfl rfl, by decide +kernel, by decide⟩
theorem cs_X3_210 : WS RX3 210 yX3_isOffFlight cX3_isOffFlight 1 (some .boolean) 1 := ⟨w0_X3_isOffFlight, gd_2 222 (by decide +kernel) rfl, gd_2 223 (by decide +kernel) rfl, rfl⟩
theorem cv_X3_214 : WV RX3 214 yX2_takeWay cX2_takeWay 3 none 2 2 := ⟨w0_X2_takeWay, gd_2 225 (by decide +kernel) rfl, gd_2 114 (by decide +kernel) rfl, gd_2 115 (by decide +kernel) rfl, TX2, 9, rfl⟩
theorem w0_X3_of : W0 yX3_of cX3_of 4 (some .int) 2 := ⟨gd_1 1 (by decide +kernel) rfl, gd_2 233 rfl rfl, by decide +kernel, by decide⟩
theorem cv_L_7 : WV RL 7 yX3_of cX3_of 4 (some .int) 2 3 := ⟨w0_X3_of, gd_2 230 (by decide +kernel) rfl, gd_2 231 (by decide +kernel) rfl, gd_2 232 (by decide +kernel) rfl, TX3, 8, rfl⟩
theorem w0_X3_numberOf : W0 yX3_numberOf cX3_numberOf 1 (some .int) 1 := ⟨gd_1 1 (by decide +kernel) rfl, gd_3 62 rfl rfl, by decide +kernel, by decide⟩
theorem cs_X3_111 : WS RX3 111 yX3_numberOf cX3_numberOf 1 (some .int) 1 := ⟨w0_X3_numberOf, gd_3 60 (by decide +kernel) rfl, gd_3 61 (by decide +kernel) rfl, rfl⟩
theorem w0_X4_init : W0 yX4_init cX4_init 1 none 0 := ⟨gd_1 3 (by decide +kernel) rfl, gd_3 68 rfl rfl, by decide +kernel, by decide⟩
theorem ci_L_18 : WI RL 18 yX4_init cX4_init 1 0 := ⟨w0_X4_init, gd_3 66 (by decide +kernel) rfl, gd_3 67 (by decide +kernel) rfl, rfl⟩
theorem w0_X4_thrown : W0 yX4_thrown cX4_thrown 1 (some .int) 0 := ⟨gd_1 3 (by decide +kernel) rfl, gd_3 134 rfl rfl, by decide +kernel, by decide⟩
theorem cv_L_48 : WV RL 48 yX4_thrown cX4_thrown 1 (some .int) 0 4 := ⟨w0_X4_thrown, gd_3 131 (by decide +kernel) rfl, gd_3 132 (by decide +kernel) rfl, gd_3 133 (by decide +kernel) rfl, TX4, 20, rfl⟩
theorem w0_X4_flight : W0 yX4_flight cX4_flight 9 (some .int) 6 := ⟨gd_1 3 (by decide +kernel) rfl, gd_3 138 rfl rfl, by decide +kernel, by decide⟩
theorem cv_L_23 : WV RL 23 yX4_flight cX4_flight 9 (some .int) 6 4 := ⟨w0_X4_flight, gd_3 135 (by decide +kernel) rfl, gd_3 136 (by decide +kernel) rfl, gd_3 137 (by decide +kernel) rfl, TX4, 20, rfl⟩
theorem w0_X4_in : W0 yX4_in cX4_in 3 (some .boolean) 3 := ⟨gd_1 3 (by decide +kernel) rfl, gd_3 141 rfl rfl, by decide +kernel, by decide⟩
theorem cs_X4_59 : WS RX4 59 yX4_in cX4_in 3 (some .boolean) 3 := ⟨w0_X4_in, gd_3 139 (by decide +kernel) rfl, gd_3 140 (by decide +kernel) rfl, rfl⟩
theorem w0_X4_off : W0 yX4_off cX4_off 3 (some .boolean) 2 := ⟨gd_1 3 (by decide +kernel) rfl, gd_3 145 rfl rfl, by decide +kernel, by decide⟩
theorem cv_L_28 : WV RL 28 yX4_off cX4_off 3 (some .boolean) 2 4 := ⟨w0_X4_off, gd_3 142 (by decide +kernel) rfl, gd_3 143 (by decide +kernel) rfl, gd_3 144 (by decide +kernel) rfl, TX4, 20, rfl⟩
theorem w0_X4_isFlight : W0 yX4_isFlight cX4_isFlight 2 (some .boolean) 1 := ⟨gd_1 3 (by decide +kernel) rfl, gd_3 149 rfl rfl, by decide +kernel, by decide⟩
theorem cv_X4_66 : WV RX4 66 yX4_isFlight cX4_isFlight 2 (some .boolean) 1 4 := ⟨w0_X4_isFlight, gd_3 146 (by decide +kernel) rfl, gd_3 148 (by decide +kernel) rfl, gd_s 36 (by decide +kernel) rfl, TX4, 20, rfl⟩
theorem w0_X4_party : W0 yX4_party cX4_party 8 (some .int) 5 := ⟨gd_1 3 (by decide +kernel) rfl, gd_3 153 rfl rfl, by decide +kernel, by decide⟩
theorem cv_L_33 : WV RL 33 yX4_party cX4_party 8 (some .int) 5 4 := ⟨w0_X4_party, gd_3 150 (by decide +kernel) rfl, gd_3 151 (by decide +kernel) rfl, gd_3 152 (by decide +kernel) rfl, TX4, 20, rfl⟩
theorem w0_X4_set : W0 yX4_set cX4_set 4 (some .int) 2 := ⟨gd_1 3 (by decide +kernel) rfl, gd_3 157 rfl rfl, by decide +kernel, by decide⟩
theorem cv_L_37 : WV RL 37 yX4_set cX4_set 4 (some .int) 2 4 := ⟨w0_X4_set, gd_3 154 (by decide +kernel) rfl, gd_3 155 (by decide +kernel) rfl, gd_3 156 (by decide +kernel) rfl, TX4, 20, rfl⟩
theorem w0_X4_told : W0 yX4_told cX4_told 5 (some .int) 2 := ⟨gd_1 3 (by decide +kernel) rfl, gd_3 161 rfl rfl, by decide +kernel, by decide⟩
theorem cv_L_41 : WV RL 41 yX4_told cX4_told 5 (some .int) 2 4 := ⟨w0_X4_told, gd_3 158 (by decide +kernel) rfl, gd_3 159 (by decide +kernel) rfl, gd_3 160 (by decide +kernel) rfl, TX4, 20, rfl⟩
theorem w0_X4_load : W0 yX4_load cX4_load 4 (some .int) 1 := ⟨gd_1 3 (by decide +kernel) rfl, gd_3 165 rfl rfl, by decide +kernel, by decide⟩
theorem cv_X4_77 : WV RX4 77 yX4_load cX4_load 4 (some .int) 1 4 := ⟨w0_X4_load, gd_3 162 (by decide +kernel) rfl, gd_3 164 (by decide +kernel) rfl, gd_s 37 (by decide +kernel) rfl, TX4, 20, rfl⟩
theorem w0_X4_get : W0 yX4_get cX4_get 3 (some .int) 2 := ⟨gd_1 3 (by decide +kernel) rfl, gd_3 169 rfl rfl, by decide +kernel, by decide⟩
theorem cv_X4_70 : WV RX4 70 yX4_get cX4_get 3 (some .int) 2 4 := ⟨w0_X4_get, gd_3 166 (by decide +kernel) rfl, gd_3 168 (by decide +kernel) rfl, gd_s 38 (by decide +kernel) rfl, TX4, 20, rfl⟩
theorem w0_X4_over : W0 yX4_over cX4_over 2 (some .int) 1 := ⟨gd_1 3 (by decide +kernel) rfl, gd_3 173 rfl rfl, by decide +kernel, by decide⟩
theorem cv_X4_86 : WV RX4 86 yX4_over cX4_over 2 (some .int) 1 4 := ⟨w0_X4_over, gd_3 170 (by decide +kernel) rfl, gd_3 172 (by decide +kernel) rfl, gd_s 39 (by decide +kernel) rfl, TX4, 20, rfl⟩
theorem w0_X4_of7 : W0 yX4_of7 cX4_of7 3 (some .int) 2 := ⟨gd_1 3 (by decide +kernel) rfl, gd_3 177 rfl rfl, by decide +kernel, by decide⟩
theorem cv_X4_74 : WV RX4 74 yX4_of7 cX4_of7 3 (some .int) 2 4 := ⟨w0_X4_of7, gd_3 174 (by decide +kernel) rfl, gd_3 176 (by decide +kernel) rfl, gd_s 40 (by decide +kernel) rfl, TX4, 20, rfl⟩
theorem cm_X4_81 : Cond.methodLink RX4 81 Lib.Math.max.name ∈ gd ∧ Cond.static Lib.Math.max.name ∈ gd ∧ Cond.initialized "java/lang/Math" ∈ gd ∧ Cond.code Lib.Math.max.name Lib.Math.max.code 2 (some .int) ∈ gd := ⟨gd_3 178 (by decide +kernel) rfl, gd_1 230 (by decide +kernel) rfl, gd_1 6 (by decide +kernel) rfl, gd_1 231 rfl rfl⟩
theorem w0_X4_of : W0 yX4_of cX4_of 3 (some .int) 2 := ⟨gd_1 3 (by decide +kernel) rfl, gd_3 182 rfl rfl, by decide +kernel, by decide⟩
theorem cv_L_47 : WV RL 47 yX4_of cX4_of 3 (some .int) 2 4 := ⟨w0_X4_of, gd_3 179 (by decide +kernel) rfl, gd_3 180 (by decide +kernel) rfl, gd_3 181 (by decide +kernel) rfl, TX4, 20, rfl⟩
theorem w0_X4_isParty : W0 yX4_isParty cX4_isParty 2 (some .boolean) 1 := ⟨gd_1 3 (by decide +kernel) rfl, gd_3 186 rfl rfl, by decide +kernel, by decide⟩
theorem cv_X4_92 : WV RX4 92 yX4_isParty cX4_isParty 2 (some .boolean) 1 4 := ⟨w0_X4_isParty, gd_3 183 (by decide +kernel) rfl, gd_3 185 (by decide +kernel) rfl, gd_s 41 (by decide +kernel) rfl, TX4, 20, rfl⟩
theorem w0_X4_lateOf : W0 yX4_lateOf cX4_lateOf 3 (some .int) 1 := ⟨gd_1 3 (by decide +kernel) rfl, gd_3 190 rfl rfl, by decide +kernel, by decide⟩
theorem cv_X4_89 : WV RX4 89 yX4_lateOf cX4_lateOf 3 (some .int) 1 4 := ⟨w0_X4_lateOf, gd_3 187 (by decide +kernel) rfl, gd_3 189 (by decide +kernel) rfl, gd_s 42 (by decide +kernel) rfl, TX4, 20, rfl⟩
theorem w0_X4_claim : W0 yX4_claim cX4_claim 5 (some .int) 1 := ⟨gd_1 3 (by decide +kernel) rfl, gd_3 194 rfl rfl, by decide +kernel, by decide⟩
theorem cv_X4_95 : WV RX4 95 yX4_claim cX4_claim 5 (some .int) 1 4 := ⟨w0_X4_claim, gd_3 191 (by decide +kernel) rfl, gd_3 193 (by decide +kernel) rfl, gd_s 43 (by decide +kernel) rfl, TX4, 20, rfl⟩
theorem w0_X4_count : W0 yX4_count cX4_count 6 (some .int) 1 := ⟨gd_1 3 (by decide +kernel) rfl, gd_3 198 rfl rfl, by decide +kernel, by decide⟩
theorem cv_L_56 : WV RL 56 yX4_count cX4_count 6 (some .int) 1 4 := ⟨w0_X4_count, gd_3 195 (by decide +kernel) rfl, gd_3 196 (by decide +kernel) rfl, gd_3 197 (by decide +kernel) rfl, TX4, 20, rfl⟩
theorem w0_X4_cost : W0 yX4_cost cX4_cost 3 (some .int) 1 := ⟨gd_1 3 (by decide +kernel) rfl, gd_3 202 rfl rfl, by decide +kernel, by decide⟩
theorem cv_L_60 : WV RL 60 yX4_cost cX4_cost 3 (some .int) 1 4 := ⟨w0_X4_cost, gd_3 199 (by decide +kernel) rfl, gd_3 200 (by decide +kernel) rfl, gd_3 201 (by decide +kernel) rfl, TX4, 20, rfl⟩
theorem w0_X4_findBest : W0 yX4_findBest cX4_findBest 7 (some .int) 1 := ⟨gd_1 3 (by decide +kernel) rfl, gd_3 206 rfl rfl, by decide +kernel, by decide⟩
theorem cv_X4_103 : WV RX4 103 yX4_findBest cX4_findBest 7 (some .int) 1 4 := ⟨w0_X4_findBest, gd_3 203 (by decide +kernel) rfl, gd_3 205 (by decide +kernel) rfl, gd_s 44 (by decide +kernel) rfl, TX4, 20, rfl⟩
theorem w0_X4_mayGive : W0 yX4_mayGive cX4_mayGive 3 (some .boolean) 2 := ⟨gd_1 3 (by decide +kernel) rfl, gd_3 211 rfl rfl, by decide +kernel, by decide⟩
theorem cv_X4_99 : WV RX4 99 yX4_mayGive cX4_mayGive 3 (some .boolean) 2 4 := ⟨w0_X4_mayGive, gd_3 208 (by decide +kernel) rfl, gd_3 210 (by decide +kernel) rfl, gd_s 45 (by decide +kernel) rfl, TX4, 20, rfl⟩
theorem w0_X4_buy : W0 yX4_buy cX4_buy 4 (some .int) 1 := ⟨gd_1 3 (by decide +kernel) rfl, gd_3 215 rfl rfl, by decide +kernel, by decide⟩
theorem cv_L_64 : WV RL 64 yX4_buy cX4_buy 4 (some .int) 1 4 := ⟨w0_X4_buy, gd_3 212 (by decide +kernel) rfl, gd_3 213 (by decide +kernel) rfl, gd_3 214 (by decide +kernel) rfl, TX4, 20, rfl⟩
theorem w0_X4_give : W0 yX4_give cX4_give 3 none 2 := ⟨gd_1 3 (by decide +kernel) rfl, gd_3 219 rfl rfl, by decide +kernel, by decide⟩
theorem cv_X4_110 : WV RX4 110 yX4_give cX4_give 3 none 2 4 := ⟨w0_X4_give, gd_3 216 (by decide +kernel) rfl, gd_3 218 (by decide +kernel) rfl, gd_s 46 (by decide +kernel) rfl, TX4, 20, rfl⟩
theorem w0_X4_put : W0 yX4_put cX4_put 4 none 3 := ⟨gd_1 3 (by decide +kernel) rfl, gd_3 223 rfl rfl, by decide +kernel, by decide⟩
theorem cv_X4_106 : WV RX4 106 yX4_put cX4_put 4 none 3 4 := ⟨w0_X4_put, gd_3 220 (by decide +kernel) rfl, gd_3 222 (by decide +kernel) rfl, gd_s 47 (by decide +kernel) rfl, TX4, 20, rfl⟩
theorem w0_X4_rounds : W0 yX4_rounds cX4_rounds 8 (some .int) 3 := ⟨gd_1 3 (by decide +kernel) rfl, gd_3 227 rfl rfl, by decide +kernel, by decide⟩
theorem cv_L_69 : WV RL 69 yX4_rounds cX4_rounds 8 (some .int) 3 4 := ⟨w0_X4_rounds, gd_3 224 (by decide +kernel) rfl, gd_3 225 (by decide +kernel) rfl, gd_3 226 (by decide +kernel) rfl, TX4, 20, rfl⟩
theorem w0_X4_leave : W0 yX4_leave cX4_leave 6 (some .int) 1 := ⟨gd_1 3 (by decide +kernel) rfl, gd_3 231 rfl rfl, by decide +kernel, by decide⟩
theorem cv_L_73 : WV RL 73 yX4_leave cX4_leave 6 (some .int) 1 4 := ⟨w0_X4_leave, gd_3 228 (by decide +kernel) rfl, gd_3 229 (by decide +kernel) rfl, gd_3 230 (by decide +kernel) rfl, TX4, 20, rfl⟩
theorem w0_X4_back : W0 yX4_back cX4_back 5 (some .boolean) 1 := ⟨gd_1 3 (by decide +kernel) rfl, gd_3 235 rfl rfl, by decide +kernel, by decide⟩
theorem cv_L_78 : WV RL 78 yX4_back cX4_back 5 (some .boolean) 1 4 := ⟨w0_X4_back, gd_3 232 (by decide +kernel) rfl, gd_3 233 (by decide +kernel) rfl, gd_3 234 (by decide +kernel) rfl, TX4, 20, rfl⟩
theorem w0_X4_late : W0 yX4_late cX4_late 4 (some .int) 3 := ⟨gd_1 3 (by decide +kernel) rfl, gd_3 239 rfl rfl, by decide +kernel, by decide⟩
theorem cv_L_82 : WV RL 82 yX4_late cX4_late 4 (some .int) 3 4 := ⟨w0_X4_late, gd_3 236 (by decide +kernel) rfl, gd_3 237 (by decide +kernel) rfl, gd_3 238 (by decide +kernel) rfl, TX4, 20, rfl⟩
theorem w0_X4_lateBy : W0 yX4_lateBy cX4_lateBy 6 (some .int) 3 := ⟨gd_1 3 (by decide +kernel) rfl, gd_4 3 rfl rfl, by decide +kernel, by decide⟩
theorem cv_X4_114 : WV RX4 114 yX4_lateBy cX4_lateBy 6 (some .int) 3 4 := ⟨w0_X4_lateBy, gd_4 0 (by decide +kernel) rfl, gd_4 2 (by decide +kernel) rfl, gd_s 48 (by decide +kernel) rfl, TX4, 20, rfl⟩
theorem w0_X4_stranded : W0 yX4_stranded cX4_stranded 1 (some .int) 0 := ⟨gd_1 3 (by decide +kernel) rfl, gd_4 7 rfl rfl, by decide +kernel, by decide⟩
theorem cv_L_86 : WV RL 86 yX4_stranded cX4_stranded 1 (some .int) 0 4 := ⟨w0_X4_stranded, gd_4 4 (by decide +kernel) rfl, gd_4 5 (by decide +kernel) rfl, gd_4 6 (by decide +kernel) rfl, TX4, 20, rfl⟩
theorem w0_X4_strandedMany : W0 yX4_strandedMany cX4_strandedMany 3 (some .int) 0 := ⟨gd_1 3 (by decide +kernel) rfl, gd_4 11 rfl rfl, by decide +kernel, by decide⟩
theorem cv_X4_136 : WV RX4 136 yX4_strandedMany cX4_strandedMany 3 (some .int) 0 4 := ⟨w0_X4_strandedMany, gd_4 8 (by decide +kernel) rfl, gd_4 10 (by decide +kernel) rfl, gd_s 49 (by decide +kernel) rfl, TX4, 20, rfl⟩
theorem w0_X4_move : W0 yX4_move cX4_move 2 (some .int) 0 := ⟨gd_1 3 (by decide +kernel) rfl, gd_4 15 rfl rfl, by decide +kernel, by decide⟩
theorem cv_L_90 : WV RL 90 yX4_move cX4_move 2 (some .int) 0 4 := ⟨w0_X4_move, gd_4 12 (by decide +kernel) rfl, gd_4 13 (by decide +kernel) rfl, gd_4 14 (by decide +kernel) rfl, TX4, 20, rfl⟩
theorem w0_X4_findWays : W0 yX4_findWays cX4_findWays 6 none 1 := ⟨gd_1 3 (by decide +kernel) rfl, gd_4 19 rfl rfl, by decide +kernel, by decide⟩
theorem cv_X4_140 : WV RX4 140 yX4_findWays cX4_findWays 6 none 1 4 := ⟨w0_X4_findWays, gd_4 16 (by decide +kernel) rfl, gd_4 18 (by decide +kernel) rfl, gd_s 50 (by decide +kernel) rfl, TX4, 20, rfl⟩
theorem w0_J9_min_7cf53 : W0 yJ9_min_7cf53 cJ9_min_7cf53 2 (some .int) 2 := ⟨gd_1 6 (by decide +kernel) rfl, gd_4 22 rfl rfl, by decide +kernel, by decide⟩
theorem cm_X4_118 : Cond.methodLink RX4 118 Lib.Math.min.name ∈ gd ∧ Cond.static Lib.Math.min.name ∈ gd ∧ Cond.initialized "java/lang/Math" ∈ gd ∧ Cond.code Lib.Math.min.name Lib.Math.min.code 2 (some .int) ∈ gd := ⟨gd_4 20 (by decide +kernel) rfl, gd_4 21 (by decide +kernel) rfl, gd_1 6 (by decide +kernel) rfl, gd_4 22 rfl rfl⟩
theorem w0_X4_goOn : W0 yX4_goOn cX4_goOn 10 none 3 := ⟨gd_1 3 (by decide +kernel) rfl, gd_4 26 rfl rfl, by decide +kernel, by decide⟩
theorem cv_X4_133 : WV RX4 133 yX4_goOn cX4_goOn 10 none 3 4 := ⟨w0_X4_goOn, gd_4 23 (by decide +kernel) rfl, gd_4 25 (by decide +kernel) rfl, gd_s 51 (by decide +kernel) rfl, TX4, 20, rfl⟩
theorem w0_X4_hasRoom : W0 yX4_hasRoom cX4_hasRoom 3 (some .boolean) 2 := ⟨gd_1 3 (by decide +kernel) rfl, gd_4 30 rfl rfl, by decide +kernel, by decide⟩
theorem cv_X4_130 : WV RX4 130 yX4_hasRoom cX4_hasRoom 3 (some .boolean) 2 4 := ⟨w0_X4_hasRoom, gd_4 27 (by decide +kernel) rfl, gd_4 29 (by decide +kernel) rfl, gd_s 52 (by decide +kernel) rfl, TX4, 20, rfl⟩
theorem w0_X4_undo : W0 yX4_undo cX4_undo 3 (some .int) 0 := ⟨gd_1 3 (by decide +kernel) rfl, gd_4 34 rfl rfl, by decide +kernel, by decide⟩
theorem cv_L_94 : WV RL 94 yX4_undo cX4_undo 3 (some .int) 0 4 := ⟨w0_X4_undo, gd_4 31 (by decide +kernel) rfl, gd_4 32 (by decide +kernel) rfl, gd_4 33 (by decide +kernel) rfl, TX4, 20, rfl⟩
theorem k_X3_236 : Cond.constantLong RX3 236 (-1) ∈ gd := gd_2 41 (by decide +kernel) rfl
theorem k_X1_91 : Cond.constant RX1 91 (360000) ∈ gd := gd_2 168 (by decide +kernel) rfl
theorem k_X4_98 : Cond.constant RX4 98 (268435456) ∈ gd := gd_3 207 (by decide +kernel) rfl
end
section
theorem dX0_init_0 : decode cX0_init 0 = .ok (.aload_n 0, 1) := by decide +kernel
theorem dX0_init_1 : decode cX0_init 1 = .ok (.invokespecial 1, 3) := by decide +kernel
theorem dX0_init_4 : decode cX0_init 4 = .ok (.aload_n 0, 1) := by decide +kernel
theorem dX0_init_5 : decode cX0_init 5 = .ok (.iconst 0, 1) := by decide +kernel
theorem dX0_init_6 : decode cX0_init 6 = .ok (.putfield 7, 3) := by decide +kernel
theorem dX0_init_9 : decode cX0_init 9 = .ok (.aload_n 0, 1) := by decide +kernel
theorem dX0_init_10 : decode cX0_init 10 = .ok (.iconst 0, 1) := by decide +kernel
theorem dX0_init_11 : decode cX0_init 11 = .ok (.putfield 13, 3) := by decide +kernel
theorem dX0_init_14 : decode cX0_init 14 = .ok (.aload_n 0, 1) := by decide +kernel
theorem dX0_init_15 : decode cX0_init 15 = .ok (.iload_n 1, 1) := by decide +kernel
theorem dX0_init_16 : decode cX0_init 16 = .ok (.putfield 17, 3) := by decide +kernel
theorem dX0_init_19 : decode cX0_init 19 = .ok (.aload_n 0, 1) := by decide +kernel
theorem dX0_init_20 : decode cX0_init 20 = .ok (.iload_n 2, 1) := by decide +kernel
theorem dX0_init_21 : decode cX0_init 21 = .ok (.putfield 20, 3) := by decide +kernel
theorem dX0_init_24 : decode cX0_init 24 = .ok (.aload_n 0, 1) := by decide +kernel
theorem dX0_init_25 : decode cX0_init 25 = .ok (.iload_n 3, 1) := by decide +kernel
theorem dX0_init_26 : decode cX0_init 26 = .ok (.putfield 23, 3) := by decide +kernel
theorem dX0_init_29 : decode cX0_init 29 = .ok (.aload_n 0, 1) := by decide +kernel
theorem dX0_init_30 : decode cX0_init 30 = .ok (.iload 4, 2) := by decide +kernel
theorem dX0_init_32 : decode cX0_init 32 = .ok (.putfield 26, 3) := by decide +kernel
theorem dX0_init_35 : decode cX0_init 35 = .ok (.aload_n 0, 1) := by decide +kernel
theorem dX0_init_36 : decode cX0_init 36 = .ok (.iload 5, 2) := by decide +kernel
theorem dX0_init_38 : decode cX0_init 38 = .ok (.putfield 29, 3) := by decide +kernel
theorem dX0_init_41 : decode cX0_init 41 = .ok (.aload_n 0, 1) := by decide +kernel
theorem dX0_init_42 : decode cX0_init 42 = .ok (.iload 6, 2) := by decide +kernel
theorem dX0_init_44 : decode cX0_init 44 = .ok (.putfield 32, 3) := by decide +kernel
theorem dX0_init_47 : decode cX0_init 47 = .ok (.aload_n 0, 1) := by decide +kernel
theorem dX0_init_48 : decode cX0_init 48 = .ok (.iload 7, 2) := by decide +kernel
theorem dX0_init_50 : decode cX0_init 50 = .ok (.putfield 35, 3) := by decide +kernel
theorem dX0_init_53 : decode cX0_init 53 = .ok (.return_, 1) := by decide +kernel
theorem dX1_init_0 : decode cX1_init 0 = .ok (.aload_n 0, 1) := by decide +kernel
theorem dX1_init_1 : decode cX1_init 1 = .ok (.invokespecial 3, 3) := by decide +kernel
theorem dX1_init_4 : decode cX1_init 4 = .ok (.aload_n 0, 1) := by decide +kernel
theorem dX1_init_5 : decode cX1_init 5 = .ok (.bipush 6, 2) := by decide +kernel
theorem dX1_init_7 : decode cX1_init 7 = .ok (.anewarray 9, 3) := by decide +kernel
theorem dX1_init_10 : decode cX1_init 10 = .ok (.putfield 11, 3) := by decide +kernel
theorem dX1_init_13 : decode cX1_init 13 = .ok (.aload_n 0, 1) := by decide +kernel
theorem dX1_init_14 : decode cX1_init 14 = .ok (.bipush 6, 2) := by decide +kernel
theorem dX1_init_16 : decode cX1_init 16 = .ok (.newarray .int, 2) := by decide +kernel
theorem dX1_init_18 : decode cX1_init 18 = .ok (.putfield 17, 3) := by decide +kernel
theorem dX1_init_21 : decode cX1_init 21 = .ok (.aload_n 0, 1) := by decide +kernel
theorem dX1_init_22 : decode cX1_init 22 = .ok (.bipush 6, 2) := by decide +kernel
theorem dX1_init_24 : decode cX1_init 24 = .ok (.newarray .int, 2) := by decide +kernel
theorem dX1_init_26 : decode cX1_init 26 = .ok (.putfield 21, 3) := by decide +kernel
theorem dX1_init_29 : decode cX1_init 29 = .ok (.aload_n 0, 1) := by decide +kernel
theorem dX1_init_30 : decode cX1_init 30 = .ok (.bipush 6, 2) := by decide +kernel
theorem dX1_init_32 : decode cX1_init 32 = .ok (.newarray .int, 2) := by decide +kernel
theorem dX1_init_34 : decode cX1_init 34 = .ok (.putfield 24, 3) := by decide +kernel
theorem dX1_init_37 : decode cX1_init 37 = .ok (.aload_n 0, 1) := by decide +kernel
theorem dX1_init_38 : decode cX1_init 38 = .ok (.bipush 6, 2) := by decide +kernel
theorem dX1_init_40 : decode cX1_init 40 = .ok (.newarray .int, 2) := by decide +kernel
theorem dX1_init_42 : decode cX1_init 42 = .ok (.putfield 27, 3) := by decide +kernel
theorem dX1_init_45 : decode cX1_init 45 = .ok (.aload_n 0, 1) := by decide +kernel
theorem dX1_init_46 : decode cX1_init 46 = .ok (.bipush 6, 2) := by decide +kernel
theorem dX1_init_48 : decode cX1_init 48 = .ok (.newarray .int, 2) := by decide +kernel
theorem dX1_init_50 : decode cX1_init 50 = .ok (.putfield 30, 3) := by decide +kernel
theorem dX1_init_53 : decode cX1_init 53 = .ok (.aload_n 0, 1) := by decide +kernel
theorem dX1_init_54 : decode cX1_init 54 = .ok (.bipush 7, 2) := by decide +kernel
theorem dX1_init_56 : decode cX1_init 56 = .ok (.newarray .int, 2) := by decide +kernel
theorem dX1_init_58 : decode cX1_init 58 = .ok (.putfield 33, 3) := by decide +kernel
theorem dX1_init_61 : decode cX1_init 61 = .ok (.aload_n 0, 1) := by decide +kernel
theorem dX1_init_62 : decode cX1_init 62 = .ok (.bipush 72, 2) := by decide +kernel
theorem dX1_init_64 : decode cX1_init 64 = .ok (.anewarray 36, 3) := by decide +kernel
theorem dX1_init_67 : decode cX1_init 67 = .ok (.putfield 38, 3) := by decide +kernel
theorem dX1_init_70 : decode cX1_init 70 = .ok (.aload_n 0, 1) := by decide +kernel
theorem dX1_init_71 : decode cX1_init 71 = .ok (.bipush 72, 2) := by decide +kernel
theorem dX1_init_73 : decode cX1_init 73 = .ok (.anewarray 36, 3) := by decide +kernel
theorem dX1_init_76 : decode cX1_init 76 = .ok (.putfield 42, 3) := by decide +kernel
theorem dX1_init_79 : decode cX1_init 79 = .ok (.aload_n 0, 1) := by decide +kernel
theorem dX1_init_80 : decode cX1_init 80 = .ok (.bipush 72, 2) := by decide +kernel
theorem dX1_init_82 : decode cX1_init 82 = .ok (.newarray .int, 2) := by decide +kernel
theorem dX1_init_84 : decode cX1_init 84 = .ok (.putfield 45, 3) := by decide +kernel
theorem dX1_init_87 : decode cX1_init 87 = .ok (.aload_n 0, 1) := by decide +kernel
theorem dX1_init_88 : decode cX1_init 88 = .ok (.bipush 72, 2) := by decide +kernel
theorem dX1_init_90 : decode cX1_init 90 = .ok (.newarray .long, 2) := by decide +kernel
theorem dX1_init_92 : decode cX1_init 92 = .ok (.putfield 48, 3) := by decide +kernel
theorem dX1_init_95 : decode cX1_init 95 = .ok (.aload_n 0, 1) := by decide +kernel
theorem dX1_init_96 : decode cX1_init 96 = .ok (.lconst 0, 1) := by decide +kernel
theorem dX1_init_97 : decode cX1_init 97 = .ok (.putfield 52, 3) := by decide +kernel
theorem dX1_init_100 : decode cX1_init 100 = .ok (.aload_n 0, 1) := by decide +kernel
theorem dX1_init_101 : decode cX1_init 101 = .ok (.iconst 0, 1) := by decide +kernel
theorem dX1_init_102 : decode cX1_init 102 = .ok (.putfield 56, 3) := by decide +kernel
theorem dX1_init_105 : decode cX1_init 105 = .ok (.return_, 1) := by decide +kernel
theorem dX1_begin_0 : decode cX1_begin 0 = .ok (.aload_n 0, 1) := by decide +kernel
theorem dX1_begin_1 : decode cX1_begin 1 = .ok (.iconst 0, 1) := by decide +kernel
theorem dX1_begin_2 : decode cX1_begin 2 = .ok (.putfield 56, 3) := by decide +kernel
theorem dX1_begin_5 : decode cX1_begin 5 = .ok (.aload_n 0, 1) := by decide +kernel
theorem dX1_begin_6 : decode cX1_begin 6 = .ok (.lconst 0, 1) := by decide +kernel
theorem dX1_begin_7 : decode cX1_begin 7 = .ok (.putfield 52, 3) := by decide +kernel
theorem dX1_begin_10 : decode cX1_begin 10 = .ok (.return_, 1) := by decide +kernel
theorem dX1_addParty_0 : decode cX1_addParty 0 = .ok (.aload_n 0, 1) := by decide +kernel
theorem dX1_addParty_1 : decode cX1_addParty 1 = .ok (.getfield 56, 3) := by decide +kernel
theorem dX1_addParty_4 : decode cX1_addParty 4 = .ok (.bipush 6, 2) := by decide +kernel
theorem dX1_addParty_6 : decode cX1_addParty 6 = .ok (.if_icmp .ge 13, 3) := by decide +kernel
theorem dX1_addParty_9 : decode cX1_addParty 9 = .ok (.iload_n 2, 1) := by decide +kernel
theorem dX1_addParty_10 : decode cX1_addParty 10 = .ok (.ifCond .lt 9, 3) := by decide +kernel
theorem dX1_addParty_13 : decode cX1_addParty 13 = .ok (.iload_n 2, 1) := by decide +kernel
theorem dX1_addParty_14 : decode cX1_addParty 14 = .ok (.bipush 6, 2) := by decide +kernel
theorem dX1_addParty_16 : decode cX1_addParty 16 = .ok (.if_icmp .lt 4, 3) := by decide +kernel
theorem dX1_addParty_19 : decode cX1_addParty 19 = .ok (.return_, 1) := by decide +kernel
theorem dX1_addParty_20 : decode cX1_addParty 20 = .ok (.aload_n 0, 1) := by decide +kernel
theorem dX1_addParty_21 : decode cX1_addParty 21 = .ok (.getfield 11, 3) := by decide +kernel
theorem dX1_addParty_24 : decode cX1_addParty 24 = .ok (.aload_n 0, 1) := by decide +kernel
theorem dX1_addParty_25 : decode cX1_addParty 25 = .ok (.getfield 56, 3) := by decide +kernel
theorem dX1_addParty_28 : decode cX1_addParty 28 = .ok (.aload_n 1, 1) := by decide +kernel
theorem dX1_addParty_29 : decode cX1_addParty 29 = .ok (.aastore, 1) := by decide +kernel
theorem dX1_addParty_30 : decode cX1_addParty 30 = .ok (.aload_n 0, 1) := by decide +kernel
theorem dX1_addParty_31 : decode cX1_addParty 31 = .ok (.getfield 17, 3) := by decide +kernel
theorem dX1_addParty_34 : decode cX1_addParty 34 = .ok (.aload_n 0, 1) := by decide +kernel
theorem dX1_addParty_35 : decode cX1_addParty 35 = .ok (.getfield 56, 3) := by decide +kernel
theorem dX1_addParty_38 : decode cX1_addParty 38 = .ok (.iload_n 2, 1) := by decide +kernel
theorem dX1_addParty_39 : decode cX1_addParty 39 = .ok (.iastore, 1) := by decide +kernel
theorem dX1_addParty_40 : decode cX1_addParty 40 = .ok (.aload_n 0, 1) := by decide +kernel
theorem dX1_addParty_41 : decode cX1_addParty 41 = .ok (.getfield 21, 3) := by decide +kernel
theorem dX1_addParty_44 : decode cX1_addParty 44 = .ok (.aload_n 0, 1) := by decide +kernel
theorem dX1_addParty_45 : decode cX1_addParty 45 = .ok (.getfield 56, 3) := by decide +kernel
theorem dX1_addParty_48 : decode cX1_addParty 48 = .ok (.aload_n 0, 1) := by decide +kernel
theorem dX1_addParty_49 : decode cX1_addParty 49 = .ok (.aload_n 1, 1) := by decide +kernel
theorem dX1_addParty_50 : decode cX1_addParty 50 = .ok (.invokevirtual 60, 3) := by decide +kernel
theorem dX1_addParty_53 : decode cX1_addParty 53 = .ok (.iastore, 1) := by decide +kernel
theorem dX1_addParty_54 : decode cX1_addParty 54 = .ok (.aload_n 0, 1) := by decide +kernel
theorem dX1_addParty_55 : decode cX1_addParty 55 = .ok (.getfield 24, 3) := by decide +kernel
theorem dX1_addParty_58 : decode cX1_addParty 58 = .ok (.aload_n 0, 1) := by decide +kernel
theorem dX1_addParty_59 : decode cX1_addParty 59 = .ok (.getfield 56, 3) := by decide +kernel
theorem dX1_addParty_62 : decode cX1_addParty 62 = .ok (.iconst 0, 1) := by decide +kernel
theorem dX1_addParty_63 : decode cX1_addParty 63 = .ok (.iastore, 1) := by decide +kernel
theorem dX1_addParty_64 : decode cX1_addParty 64 = .ok (.aload_n 0, 1) := by decide +kernel
theorem dX1_addParty_65 : decode cX1_addParty 65 = .ok (.dup, 1) := by decide +kernel
theorem dX1_addParty_66 : decode cX1_addParty 66 = .ok (.getfield 56, 3) := by decide +kernel
theorem dX1_addParty_69 : decode cX1_addParty 69 = .ok (.iconst 1, 1) := by decide +kernel
theorem dX1_addParty_70 : decode cX1_addParty 70 = .ok (.iadd, 1) := by decide +kernel
theorem dX1_addParty_71 : decode cX1_addParty 71 = .ok (.putfield 56, 3) := by decide +kernel
theorem dX1_addParty_74 : decode cX1_addParty 74 = .ok (.return_, 1) := by decide +kernel
theorem dX1_addWay_0 : decode cX1_addWay 0 = .ok (.aload_n 0, 1) := by decide +kernel
theorem dX1_addWay_1 : decode cX1_addWay 1 = .ok (.getfield 56, 3) := by decide +kernel
theorem dX1_addWay_4 : decode cX1_addWay 4 = .ok (.iconst 1, 1) := by decide +kernel
theorem dX1_addWay_5 : decode cX1_addWay 5 = .ok (.isub, 1) := by decide +kernel
theorem dX1_addWay_6 : decode cX1_addWay 6 = .ok (.istore_n 3, 1) := by decide +kernel
theorem dX1_addWay_7 : decode cX1_addWay 7 = .ok (.iload_n 3, 1) := by decide +kernel
theorem dX1_addWay_8 : decode cX1_addWay 8 = .ok (.ifCond .lt 14, 3) := by decide +kernel
theorem dX1_addWay_11 : decode cX1_addWay 11 = .ok (.aload_n 0, 1) := by decide +kernel
theorem dX1_addWay_12 : decode cX1_addWay 12 = .ok (.getfield 24, 3) := by decide +kernel
theorem dX1_addWay_15 : decode cX1_addWay 15 = .ok (.iload_n 3, 1) := by decide +kernel
theorem dX1_addWay_16 : decode cX1_addWay 16 = .ok (.iaload, 1) := by decide +kernel
theorem dX1_addWay_17 : decode cX1_addWay 17 = .ok (.bipush 12, 2) := by decide +kernel
theorem dX1_addWay_19 : decode cX1_addWay 19 = .ok (.if_icmp .lt 4, 3) := by decide +kernel
theorem dX1_addWay_22 : decode cX1_addWay 22 = .ok (.return_, 1) := by decide +kernel
theorem dX1_addWay_23 : decode cX1_addWay 23 = .ok (.aload_n 0, 1) := by decide +kernel
theorem dX1_addWay_24 : decode cX1_addWay 24 = .ok (.getfield 24, 3) := by decide +kernel
theorem dX1_addWay_27 : decode cX1_addWay 27 = .ok (.iload_n 3, 1) := by decide +kernel
theorem dX1_addWay_28 : decode cX1_addWay 28 = .ok (.iaload, 1) := by decide +kernel
theorem dX1_addWay_29 : decode cX1_addWay 29 = .ok (.istore 4, 2) := by decide +kernel
theorem dX1_addWay_31 : decode cX1_addWay 31 = .ok (.aload_n 0, 1) := by decide +kernel
theorem dX1_addWay_32 : decode cX1_addWay 32 = .ok (.iload_n 3, 1) := by decide +kernel
theorem dX1_addWay_33 : decode cX1_addWay 33 = .ok (.aload_n 0, 1) := by decide +kernel
theorem dX1_addWay_34 : decode cX1_addWay 34 = .ok (.getfield 11, 3) := by decide +kernel
theorem dX1_addWay_37 : decode cX1_addWay 37 = .ok (.iload_n 3, 1) := by decide +kernel
theorem dX1_addWay_38 : decode cX1_addWay 38 = .ok (.aaload, 1) := by decide +kernel
theorem dX1_addWay_39 : decode cX1_addWay 39 = .ok (.aload_n 1, 1) := by decide +kernel
theorem dX1_addWay_40 : decode cX1_addWay 40 = .ok (.aload_n 2, 1) := by decide +kernel
theorem dX1_addWay_41 : decode cX1_addWay 41 = .ok (.invokevirtual 64, 3) := by decide +kernel
theorem dX1_addWay_44 : decode cX1_addWay 44 = .ok (.iload 4, 2) := by decide +kernel
theorem dX1_addWay_46 : decode cX1_addWay 46 = .ok (.invokevirtual 68, 3) := by decide +kernel
theorem dX1_addWay_49 : decode cX1_addWay 49 = .ok (.lstore 5, 2) := by decide +kernel
theorem dX1_addWay_51 : decode cX1_addWay 51 = .ok (.iload_n 3, 1) := by decide +kernel
theorem dX1_addWay_52 : decode cX1_addWay 52 = .ok (.bipush 12, 2) := by decide +kernel
theorem dX1_addWay_54 : decode cX1_addWay 54 = .ok (.imul, 1) := by decide +kernel
theorem dX1_addWay_55 : decode cX1_addWay 55 = .ok (.istore 7, 2) := by decide +kernel
theorem dX1_addWay_57 : decode cX1_addWay 57 = .ok (.iload 7, 2) := by decide +kernel
theorem dX1_addWay_59 : decode cX1_addWay 59 = .ok (.iload 4, 2) := by decide +kernel
theorem dX1_addWay_61 : decode cX1_addWay 61 = .ok (.iadd, 1) := by decide +kernel
theorem dX1_addWay_62 : decode cX1_addWay 62 = .ok (.istore 8, 2) := by decide +kernel
theorem dX1_addWay_64 : decode cX1_addWay 64 = .ok (.iload 8, 2) := by decide +kernel
theorem dX1_addWay_66 : decode cX1_addWay 66 = .ok (.iload 7, 2) := by decide +kernel
theorem dX1_addWay_68 : decode cX1_addWay 68 = .ok (.if_icmp .le 66, 3) := by decide +kernel
theorem dX1_addWay_71 : decode cX1_addWay 71 = .ok (.aload_n 0, 1) := by decide +kernel
theorem dX1_addWay_72 : decode cX1_addWay 72 = .ok (.getfield 48, 3) := by decide +kernel
theorem dX1_addWay_75 : decode cX1_addWay 75 = .ok (.iload 8, 2) := by decide +kernel
theorem dX1_addWay_77 : decode cX1_addWay 77 = .ok (.iconst 1, 1) := by decide +kernel
theorem dX1_addWay_78 : decode cX1_addWay 78 = .ok (.isub, 1) := by decide +kernel
theorem dX1_addWay_79 : decode cX1_addWay 79 = .ok (.laload, 1) := by decide +kernel
theorem dX1_addWay_80 : decode cX1_addWay 80 = .ok (.lload 5, 2) := by decide +kernel
theorem dX1_addWay_82 : decode cX1_addWay 82 = .ok (.lcmp, 1) := by decide +kernel
theorem dX1_addWay_83 : decode cX1_addWay 83 = .ok (.ifCond .ge 51, 3) := by decide +kernel
theorem dX1_addWay_86 : decode cX1_addWay 86 = .ok (.aload_n 0, 1) := by decide +kernel
theorem dX1_addWay_87 : decode cX1_addWay 87 = .ok (.iload 8, 2) := by decide +kernel
theorem dX1_addWay_89 : decode cX1_addWay 89 = .ok (.aload_n 0, 1) := by decide +kernel
theorem dX1_addWay_90 : decode cX1_addWay 90 = .ok (.getfield 38, 3) := by decide +kernel
theorem dX1_addWay_93 : decode cX1_addWay 93 = .ok (.iload 8, 2) := by decide +kernel
theorem dX1_addWay_95 : decode cX1_addWay 95 = .ok (.iconst 1, 1) := by decide +kernel
theorem dX1_addWay_96 : decode cX1_addWay 96 = .ok (.isub, 1) := by decide +kernel
theorem dX1_addWay_97 : decode cX1_addWay 97 = .ok (.aaload, 1) := by decide +kernel
theorem dX1_addWay_98 : decode cX1_addWay 98 = .ok (.aload_n 0, 1) := by decide +kernel
theorem dX1_addWay_99 : decode cX1_addWay 99 = .ok (.getfield 42, 3) := by decide +kernel
theorem dX1_addWay_102 : decode cX1_addWay 102 = .ok (.iload 8, 2) := by decide +kernel
theorem dX1_addWay_104 : decode cX1_addWay 104 = .ok (.iconst 1, 1) := by decide +kernel
theorem dX1_addWay_105 : decode cX1_addWay 105 = .ok (.isub, 1) := by decide +kernel
theorem dX1_addWay_106 : decode cX1_addWay 106 = .ok (.aaload, 1) := by decide +kernel
theorem dX1_addWay_107 : decode cX1_addWay 107 = .ok (.aload_n 0, 1) := by decide +kernel
theorem dX1_addWay_108 : decode cX1_addWay 108 = .ok (.getfield 45, 3) := by decide +kernel
theorem dX1_addWay_111 : decode cX1_addWay 111 = .ok (.iload 8, 2) := by decide +kernel
theorem dX1_addWay_113 : decode cX1_addWay 113 = .ok (.iconst 1, 1) := by decide +kernel
theorem dX1_addWay_114 : decode cX1_addWay 114 = .ok (.isub, 1) := by decide +kernel
theorem dX1_addWay_115 : decode cX1_addWay 115 = .ok (.iaload, 1) := by decide +kernel
theorem dX1_addWay_116 : decode cX1_addWay 116 = .ok (.aload_n 0, 1) := by decide +kernel
theorem dX1_addWay_117 : decode cX1_addWay 117 = .ok (.getfield 48, 3) := by decide +kernel
theorem dX1_addWay_120 : decode cX1_addWay 120 = .ok (.iload 8, 2) := by decide +kernel
theorem dX1_addWay_122 : decode cX1_addWay 122 = .ok (.iconst 1, 1) := by decide +kernel
theorem dX1_addWay_123 : decode cX1_addWay 123 = .ok (.isub, 1) := by decide +kernel
theorem dX1_addWay_124 : decode cX1_addWay 124 = .ok (.laload, 1) := by decide +kernel
theorem dX1_addWay_125 : decode cX1_addWay 125 = .ok (.invokevirtual 72, 3) := by decide +kernel
theorem dX1_addWay_128 : decode cX1_addWay 128 = .ok (.iinc 8 (-1), 3) := by decide +kernel
theorem dX1_addWay_131 : decode cX1_addWay 131 = .ok (.goto (-67), 3) := by decide +kernel
theorem dX1_addWay_134 : decode cX1_addWay 134 = .ok (.aload_n 0, 1) := by decide +kernel
theorem dX1_addWay_135 : decode cX1_addWay 135 = .ok (.iload 8, 2) := by decide +kernel
theorem dX1_addWay_137 : decode cX1_addWay 137 = .ok (.aload_n 1, 1) := by decide +kernel
theorem dX1_addWay_138 : decode cX1_addWay 138 = .ok (.aload_n 2, 1) := by decide +kernel
theorem dX1_addWay_139 : decode cX1_addWay 139 = .ok (.iload 4, 2) := by decide +kernel
theorem dX1_addWay_141 : decode cX1_addWay 141 = .ok (.lload 5, 2) := by decide +kernel
theorem dX1_addWay_143 : decode cX1_addWay 143 = .ok (.invokevirtual 72, 3) := by decide +kernel
theorem dX1_addWay_146 : decode cX1_addWay 146 = .ok (.aload_n 0, 1) := by decide +kernel
theorem dX1_addWay_147 : decode cX1_addWay 147 = .ok (.getfield 24, 3) := by decide +kernel
theorem dX1_addWay_150 : decode cX1_addWay 150 = .ok (.iload_n 3, 1) := by decide +kernel
theorem dX1_addWay_151 : decode cX1_addWay 151 = .ok (.dup2, 1) := by decide +kernel
theorem dX1_addWay_152 : decode cX1_addWay 152 = .ok (.iaload, 1) := by decide +kernel
theorem dX1_addWay_153 : decode cX1_addWay 153 = .ok (.iconst 1, 1) := by decide +kernel
theorem dX1_addWay_154 : decode cX1_addWay 154 = .ok (.iadd, 1) := by decide +kernel
theorem dX1_addWay_155 : decode cX1_addWay 155 = .ok (.iastore, 1) := by decide +kernel
theorem dX1_addWay_156 : decode cX1_addWay 156 = .ok (.return_, 1) := by decide +kernel
theorem dX1_findBest_0 : decode cX1_findBest 0 = .ok (.aload_n 0, 1) := by decide +kernel
theorem dX1_findBest_1 : decode cX1_findBest 1 = .ok (.getfield 33, 3) := by decide +kernel
theorem dX1_findBest_4 : decode cX1_findBest 4 = .ok (.aload_n 0, 1) := by decide +kernel
theorem dX1_findBest_5 : decode cX1_findBest 5 = .ok (.getfield 56, 3) := by decide +kernel
theorem dX1_findBest_8 : decode cX1_findBest 8 = .ok (.iconst 0, 1) := by decide +kernel
theorem dX1_findBest_9 : decode cX1_findBest 9 = .ok (.iastore, 1) := by decide +kernel
theorem dX1_findBest_10 : decode cX1_findBest 10 = .ok (.aload_n 0, 1) := by decide +kernel
theorem dX1_findBest_11 : decode cX1_findBest 11 = .ok (.getfield 56, 3) := by decide +kernel
theorem dX1_findBest_14 : decode cX1_findBest 14 = .ok (.iconst 1, 1) := by decide +kernel
theorem dX1_findBest_15 : decode cX1_findBest 15 = .ok (.isub, 1) := by decide +kernel
theorem dX1_findBest_16 : decode cX1_findBest 16 = .ok (.istore_n 1, 1) := by decide +kernel
theorem dX1_findBest_17 : decode cX1_findBest 17 = .ok (.iload_n 1, 1) := by decide +kernel
theorem dX1_findBest_18 : decode cX1_findBest 18 = .ok (.ifCond .lt 45, 3) := by decide +kernel
theorem dX1_findBest_21 : decode cX1_findBest 21 = .ok (.aload_n 0, 1) := by decide +kernel
theorem dX1_findBest_22 : decode cX1_findBest 22 = .ok (.getfield 33, 3) := by decide +kernel
theorem dX1_findBest_25 : decode cX1_findBest 25 = .ok (.iload_n 1, 1) := by decide +kernel
theorem dX1_findBest_26 : decode cX1_findBest 26 = .ok (.aload_n 0, 1) := by decide +kernel
theorem dX1_findBest_27 : decode cX1_findBest 27 = .ok (.getfield 33, 3) := by decide +kernel
theorem dX1_findBest_30 : decode cX1_findBest 30 = .ok (.iload_n 1, 1) := by decide +kernel
theorem dX1_findBest_31 : decode cX1_findBest 31 = .ok (.iconst 1, 1) := by decide +kernel
theorem dX1_findBest_32 : decode cX1_findBest 32 = .ok (.iadd, 1) := by decide +kernel
theorem dX1_findBest_33 : decode cX1_findBest 33 = .ok (.iaload, 1) := by decide +kernel
theorem dX1_findBest_34 : decode cX1_findBest 34 = .ok (.aload_n 0, 1) := by decide +kernel
theorem dX1_findBest_35 : decode cX1_findBest 35 = .ok (.getfield 11, 3) := by decide +kernel
theorem dX1_findBest_38 : decode cX1_findBest 38 = .ok (.iload_n 1, 1) := by decide +kernel
theorem dX1_findBest_39 : decode cX1_findBest 39 = .ok (.aaload, 1) := by decide +kernel
theorem dX1_findBest_40 : decode cX1_findBest 40 = .ok (.getfield 76, 3) := by decide +kernel
theorem dX1_findBest_43 : decode cX1_findBest 43 = .ok (.iadd, 1) := by decide +kernel
theorem dX1_findBest_44 : decode cX1_findBest 44 = .ok (.iastore, 1) := by decide +kernel
theorem dX1_findBest_45 : decode cX1_findBest 45 = .ok (.aload_n 0, 1) := by decide +kernel
theorem dX1_findBest_46 : decode cX1_findBest 46 = .ok (.getfield 30, 3) := by decide +kernel
theorem dX1_findBest_49 : decode cX1_findBest 49 = .ok (.iload_n 1, 1) := by decide +kernel
theorem dX1_findBest_50 : decode cX1_findBest 50 = .ok (.aload_n 0, 1) := by decide +kernel
theorem dX1_findBest_51 : decode cX1_findBest 51 = .ok (.getfield 24, 3) := by decide +kernel
theorem dX1_findBest_54 : decode cX1_findBest 54 = .ok (.iload_n 1, 1) := by decide +kernel
theorem dX1_findBest_55 : decode cX1_findBest 55 = .ok (.iaload, 1) := by decide +kernel
theorem dX1_findBest_56 : decode cX1_findBest 56 = .ok (.iastore, 1) := by decide +kernel
theorem dX1_findBest_57 : decode cX1_findBest 57 = .ok (.iinc 1 (-1), 3) := by decide +kernel
theorem dX1_findBest_60 : decode cX1_findBest 60 = .ok (.goto (-43), 3) := by decide +kernel
theorem dX1_findBest_63 : decode cX1_findBest 63 = .ok (.aload_n 0, 1) := by decide +kernel
theorem dX1_findBest_64 : decode cX1_findBest 64 = .ok (.iconst 0, 1) := by decide +kernel
theorem dX1_findBest_65 : decode cX1_findBest 65 = .ok (.lconst 0, 1) := by decide +kernel
theorem dX1_findBest_66 : decode cX1_findBest 66 = .ok (.invokevirtual 79, 3) := by decide +kernel
theorem dX1_findBest_69 : decode cX1_findBest 69 = .ok (.return_, 1) := by decide +kernel
theorem dX1_giveWays_0 : decode cX1_giveWays 0 = .ok (.iconst 0, 1) := by decide +kernel
theorem dX1_giveWays_1 : decode cX1_giveWays 1 = .ok (.istore_n 1, 1) := by decide +kernel
theorem dX1_giveWays_2 : decode cX1_giveWays 2 = .ok (.iconst 0, 1) := by decide +kernel
theorem dX1_giveWays_3 : decode cX1_giveWays 3 = .ok (.istore_n 2, 1) := by decide +kernel
theorem dX1_giveWays_4 : decode cX1_giveWays 4 = .ok (.iload_n 2, 1) := by decide +kernel
theorem dX1_giveWays_5 : decode cX1_giveWays 5 = .ok (.aload_n 0, 1) := by decide +kernel
theorem dX1_giveWays_6 : decode cX1_giveWays 6 = .ok (.getfield 56, 3) := by decide +kernel
theorem dX1_giveWays_9 : decode cX1_giveWays 9 = .ok (.if_icmp .ge 69, 3) := by decide +kernel
theorem dX1_giveWays_12 : decode cX1_giveWays 12 = .ok (.aload_n 0, 1) := by decide +kernel
theorem dX1_giveWays_13 : decode cX1_giveWays 13 = .ok (.getfield 30, 3) := by decide +kernel
theorem dX1_giveWays_16 : decode cX1_giveWays 16 = .ok (.iload_n 2, 1) := by decide +kernel
theorem dX1_giveWays_17 : decode cX1_giveWays 17 = .ok (.iaload, 1) := by decide +kernel
theorem dX1_giveWays_18 : decode cX1_giveWays 18 = .ok (.aload_n 0, 1) := by decide +kernel
theorem dX1_giveWays_19 : decode cX1_giveWays 19 = .ok (.getfield 24, 3) := by decide +kernel
theorem dX1_giveWays_22 : decode cX1_giveWays 22 = .ok (.iload_n 2, 1) := by decide +kernel
theorem dX1_giveWays_23 : decode cX1_giveWays 23 = .ok (.iaload, 1) := by decide +kernel
theorem dX1_giveWays_24 : decode cX1_giveWays 24 = .ok (.if_icmp .ge 48, 3) := by decide +kernel
theorem dX1_giveWays_27 : decode cX1_giveWays 27 = .ok (.iload_n 2, 1) := by decide +kernel
theorem dX1_giveWays_28 : decode cX1_giveWays 28 = .ok (.bipush 12, 2) := by decide +kernel
theorem dX1_giveWays_30 : decode cX1_giveWays 30 = .ok (.imul, 1) := by decide +kernel
theorem dX1_giveWays_31 : decode cX1_giveWays 31 = .ok (.aload_n 0, 1) := by decide +kernel
theorem dX1_giveWays_32 : decode cX1_giveWays 32 = .ok (.getfield 30, 3) := by decide +kernel
theorem dX1_giveWays_35 : decode cX1_giveWays 35 = .ok (.iload_n 2, 1) := by decide +kernel
theorem dX1_giveWays_36 : decode cX1_giveWays 36 = .ok (.iaload, 1) := by decide +kernel
theorem dX1_giveWays_37 : decode cX1_giveWays 37 = .ok (.iadd, 1) := by decide +kernel
theorem dX1_giveWays_38 : decode cX1_giveWays 38 = .ok (.istore_n 3, 1) := by decide +kernel
theorem dX1_giveWays_39 : decode cX1_giveWays 39 = .ok (.aload_n 0, 1) := by decide +kernel
theorem dX1_giveWays_40 : decode cX1_giveWays 40 = .ok (.getfield 11, 3) := by decide +kernel
theorem dX1_giveWays_43 : decode cX1_giveWays 43 = .ok (.iload_n 2, 1) := by decide +kernel
theorem dX1_giveWays_44 : decode cX1_giveWays 44 = .ok (.aaload, 1) := by decide +kernel
theorem dX1_giveWays_45 : decode cX1_giveWays 45 = .ok (.aload_n 0, 1) := by decide +kernel
theorem dX1_giveWays_46 : decode cX1_giveWays 46 = .ok (.getfield 38, 3) := by decide +kernel
theorem dX1_giveWays_49 : decode cX1_giveWays 49 = .ok (.iload_n 3, 1) := by decide +kernel
theorem dX1_giveWays_50 : decode cX1_giveWays 50 = .ok (.aaload, 1) := by decide +kernel
theorem dX1_giveWays_51 : decode cX1_giveWays 51 = .ok (.aload_n 0, 1) := by decide +kernel
theorem dX1_giveWays_52 : decode cX1_giveWays 52 = .ok (.getfield 42, 3) := by decide +kernel
theorem dX1_giveWays_55 : decode cX1_giveWays 55 = .ok (.iload_n 3, 1) := by decide +kernel
theorem dX1_giveWays_56 : decode cX1_giveWays 56 = .ok (.aaload, 1) := by decide +kernel
theorem dX1_giveWays_57 : decode cX1_giveWays 57 = .ok (.invokevirtual 83, 3) := by decide +kernel
theorem dX1_giveWays_60 : decode cX1_giveWays 60 = .ok (.iload_n 1, 1) := by decide +kernel
theorem dX1_giveWays_61 : decode cX1_giveWays 61 = .ok (.aload_n 0, 1) := by decide +kernel
theorem dX1_giveWays_62 : decode cX1_giveWays 62 = .ok (.getfield 11, 3) := by decide +kernel
theorem dX1_giveWays_65 : decode cX1_giveWays 65 = .ok (.iload_n 2, 1) := by decide +kernel
theorem dX1_giveWays_66 : decode cX1_giveWays 66 = .ok (.aaload, 1) := by decide +kernel
theorem dX1_giveWays_67 : decode cX1_giveWays 67 = .ok (.getfield 76, 3) := by decide +kernel
theorem dX1_giveWays_70 : decode cX1_giveWays 70 = .ok (.iadd, 1) := by decide +kernel
theorem dX1_giveWays_71 : decode cX1_giveWays 71 = .ok (.istore_n 1, 1) := by decide +kernel
theorem dX1_giveWays_72 : decode cX1_giveWays 72 = .ok (.iinc 2 1, 3) := by decide +kernel
theorem dX1_giveWays_75 : decode cX1_giveWays 75 = .ok (.goto (-71), 3) := by decide +kernel
theorem dX1_giveWays_78 : decode cX1_giveWays 78 = .ok (.iload_n 1, 1) := by decide +kernel
theorem dX1_giveWays_79 : decode cX1_giveWays 79 = .ok (.ireturn, 1) := by decide +kernel
theorem dX1_lastTwin_0 : decode cX1_lastTwin 0 = .ok (.aload_n 0, 1) := by decide +kernel
theorem dX1_lastTwin_1 : decode cX1_lastTwin 1 = .ok (.getfield 56, 3) := by decide +kernel
theorem dX1_lastTwin_4 : decode cX1_lastTwin 4 = .ok (.iconst 1, 1) := by decide +kernel
theorem dX1_lastTwin_5 : decode cX1_lastTwin 5 = .ok (.isub, 1) := by decide +kernel
theorem dX1_lastTwin_6 : decode cX1_lastTwin 6 = .ok (.istore_n 2, 1) := by decide +kernel
theorem dX1_lastTwin_7 : decode cX1_lastTwin 7 = .ok (.iload_n 2, 1) := by decide +kernel
theorem dX1_lastTwin_8 : decode cX1_lastTwin 8 = .ok (.ifCond .lt 43, 3) := by decide +kernel
theorem dX1_lastTwin_11 : decode cX1_lastTwin 11 = .ok (.aload_n 0, 1) := by decide +kernel
theorem dX1_lastTwin_12 : decode cX1_lastTwin 12 = .ok (.getfield 11, 3) := by decide +kernel
theorem dX1_lastTwin_15 : decode cX1_lastTwin 15 = .ok (.iload_n 2, 1) := by decide +kernel
theorem dX1_lastTwin_16 : decode cX1_lastTwin 16 = .ok (.aaload, 1) := by decide +kernel
theorem dX1_lastTwin_17 : decode cX1_lastTwin 17 = .ok (.getfield 87, 3) := by decide +kernel
theorem dX1_lastTwin_20 : decode cX1_lastTwin 20 = .ok (.aload_n 1, 1) := by decide +kernel
theorem dX1_lastTwin_21 : decode cX1_lastTwin 21 = .ok (.getfield 87, 3) := by decide +kernel
theorem dX1_lastTwin_24 : decode cX1_lastTwin 24 = .ok (.if_acmp .ne 21, 3) := by decide +kernel
theorem dX1_lastTwin_27 : decode cX1_lastTwin 27 = .ok (.aload_n 0, 1) := by decide +kernel
theorem dX1_lastTwin_28 : decode cX1_lastTwin 28 = .ok (.getfield 11, 3) := by decide +kernel
theorem dX1_lastTwin_31 : decode cX1_lastTwin 31 = .ok (.iload_n 2, 1) := by decide +kernel
theorem dX1_lastTwin_32 : decode cX1_lastTwin 32 = .ok (.aaload, 1) := by decide +kernel
theorem dX1_lastTwin_33 : decode cX1_lastTwin 33 = .ok (.getfield 76, 3) := by decide +kernel
theorem dX1_lastTwin_36 : decode cX1_lastTwin 36 = .ok (.aload_n 1, 1) := by decide +kernel
theorem dX1_lastTwin_37 : decode cX1_lastTwin 37 = .ok (.getfield 76, 3) := by decide +kernel
theorem dX1_lastTwin_40 : decode cX1_lastTwin 40 = .ok (.if_icmp .ne 5, 3) := by decide +kernel
theorem dX1_lastTwin_43 : decode cX1_lastTwin 43 = .ok (.iload_n 2, 1) := by decide +kernel
theorem dX1_lastTwin_44 : decode cX1_lastTwin 44 = .ok (.ireturn, 1) := by decide +kernel
theorem dX1_lastTwin_45 : decode cX1_lastTwin 45 = .ok (.iinc 2 (-1), 3) := by decide +kernel
theorem dX1_lastTwin_48 : decode cX1_lastTwin 48 = .ok (.goto (-41), 3) := by decide +kernel
theorem dX1_lastTwin_51 : decode cX1_lastTwin 51 = .ok (.iconst (-1), 1) := by decide +kernel
theorem dX1_lastTwin_52 : decode cX1_lastTwin 52 = .ok (.ireturn, 1) := by decide +kernel
theorem dX1_worthOf_0 : decode cX1_worthOf 0 = .ok (.aload_n 0, 1) := by decide +kernel
theorem dX1_worthOf_1 : decode cX1_worthOf 1 = .ok (.getfield 11, 3) := by decide +kernel
theorem dX1_worthOf_4 : decode cX1_worthOf 4 = .ok (.iload_n 1, 1) := by decide +kernel
theorem dX1_worthOf_5 : decode cX1_worthOf 5 = .ok (.aaload, 1) := by decide +kernel
theorem dX1_worthOf_6 : decode cX1_worthOf 6 = .ok (.getfield 76, 3) := by decide +kernel
theorem dX1_worthOf_9 : decode cX1_worthOf 9 = .ok (.i2l, 1) := by decide +kernel
theorem dX1_worthOf_10 : decode cX1_worthOf 10 = .ok (.ldc 91, 2) := by decide +kernel
theorem dX1_worthOf_12 : decode cX1_worthOf 12 = .ok (.iload_n 2, 1) := by decide +kernel
theorem dX1_worthOf_13 : decode cX1_worthOf 13 = .ok (.isub, 1) := by decide +kernel
theorem dX1_worthOf_14 : decode cX1_worthOf 14 = .ok (.i2l, 1) := by decide +kernel
theorem dX1_worthOf_15 : decode cX1_worthOf 15 = .ok (.lmul, 1) := by decide +kernel
theorem dX1_worthOf_16 : decode cX1_worthOf 16 = .ok (.lstore 4, 2) := by decide +kernel
theorem dX1_worthOf_18 : decode cX1_worthOf 18 = .ok (.bipush 15, 2) := by decide +kernel
theorem dX1_worthOf_20 : decode cX1_worthOf 20 = .ok (.iload_n 3, 1) := by decide +kernel
theorem dX1_worthOf_21 : decode cX1_worthOf 21 = .ok (.isub, 1) := by decide +kernel
theorem dX1_worthOf_22 : decode cX1_worthOf 22 = .ok (.i2l, 1) := by decide +kernel
theorem dX1_worthOf_23 : decode cX1_worthOf 23 = .ok (.lstore 6, 2) := by decide +kernel
theorem dX1_worthOf_25 : decode cX1_worthOf 25 = .ok (.lload 4, 2) := by decide +kernel
theorem dX1_worthOf_27 : decode cX1_worthOf 27 = .ok (.bipush 24, 2) := by decide +kernel
theorem dX1_worthOf_29 : decode cX1_worthOf 29 = .ok (.lshl, 1) := by decide +kernel
theorem dX1_worthOf_30 : decode cX1_worthOf 30 = .ok (.lload 6, 2) := by decide +kernel
theorem dX1_worthOf_32 : decode cX1_worthOf 32 = .ok (.iconst 4, 1) := by decide +kernel
theorem dX1_worthOf_33 : decode cX1_worthOf 33 = .ok (.iconst 5, 1) := by decide +kernel
theorem dX1_worthOf_34 : decode cX1_worthOf 34 = .ok (.aload_n 0, 1) := by decide +kernel
theorem dX1_worthOf_35 : decode cX1_worthOf 35 = .ok (.getfield 17, 3) := by decide +kernel
theorem dX1_worthOf_38 : decode cX1_worthOf 38 = .ok (.iload_n 1, 1) := by decide +kernel
theorem dX1_worthOf_39 : decode cX1_worthOf 39 = .ok (.iaload, 1) := by decide +kernel
theorem dX1_worthOf_40 : decode cX1_worthOf 40 = .ok (.isub, 1) := by decide +kernel
theorem dX1_worthOf_41 : decode cX1_worthOf 41 = .ok (.imul, 1) := by decide +kernel
theorem dX1_worthOf_42 : decode cX1_worthOf 42 = .ok (.lshl, 1) := by decide +kernel
theorem dX1_worthOf_43 : decode cX1_worthOf 43 = .ok (.ladd, 1) := by decide +kernel
theorem dX1_worthOf_44 : decode cX1_worthOf 44 = .ok (.lreturn, 1) := by decide +kernel
theorem dX1_putWay_0 : decode cX1_putWay 0 = .ok (.aload_n 0, 1) := by decide +kernel
theorem dX1_putWay_1 : decode cX1_putWay 1 = .ok (.getfield 38, 3) := by decide +kernel
theorem dX1_putWay_4 : decode cX1_putWay 4 = .ok (.iload_n 1, 1) := by decide +kernel
theorem dX1_putWay_5 : decode cX1_putWay 5 = .ok (.aload_n 2, 1) := by decide +kernel
theorem dX1_putWay_6 : decode cX1_putWay 6 = .ok (.aastore, 1) := by decide +kernel
theorem dX1_putWay_7 : decode cX1_putWay 7 = .ok (.aload_n 0, 1) := by decide +kernel
theorem dX1_putWay_8 : decode cX1_putWay 8 = .ok (.getfield 42, 3) := by decide +kernel
theorem dX1_putWay_11 : decode cX1_putWay 11 = .ok (.iload_n 1, 1) := by decide +kernel
theorem dX1_putWay_12 : decode cX1_putWay 12 = .ok (.aload_n 3, 1) := by decide +kernel
theorem dX1_putWay_13 : decode cX1_putWay 13 = .ok (.aastore, 1) := by decide +kernel
theorem dX1_putWay_14 : decode cX1_putWay 14 = .ok (.aload_n 0, 1) := by decide +kernel
theorem dX1_putWay_15 : decode cX1_putWay 15 = .ok (.getfield 45, 3) := by decide +kernel
theorem dX1_putWay_18 : decode cX1_putWay 18 = .ok (.iload_n 1, 1) := by decide +kernel
theorem dX1_putWay_19 : decode cX1_putWay 19 = .ok (.iload 4, 2) := by decide +kernel
theorem dX1_putWay_21 : decode cX1_putWay 21 = .ok (.iastore, 1) := by decide +kernel
theorem dX1_putWay_22 : decode cX1_putWay 22 = .ok (.aload_n 0, 1) := by decide +kernel
theorem dX1_putWay_23 : decode cX1_putWay 23 = .ok (.getfield 48, 3) := by decide +kernel
theorem dX1_putWay_26 : decode cX1_putWay 26 = .ok (.iload_n 1, 1) := by decide +kernel
theorem dX1_putWay_27 : decode cX1_putWay 27 = .ok (.lload 5, 2) := by decide +kernel
theorem dX1_putWay_29 : decode cX1_putWay 29 = .ok (.lastore, 1) := by decide +kernel
theorem dX1_putWay_30 : decode cX1_putWay 30 = .ok (.return_, 1) := by decide +kernel
theorem dX1_choose_0 : decode cX1_choose 0 = .ok (.iload_n 1, 1) := by decide +kernel
theorem dX1_choose_1 : decode cX1_choose 1 = .ok (.aload_n 0, 1) := by decide +kernel
theorem dX1_choose_2 : decode cX1_choose 2 = .ok (.getfield 56, 3) := by decide +kernel
theorem dX1_choose_5 : decode cX1_choose 5 = .ok (.if_icmp .lt 9, 3) := by decide +kernel
theorem dX1_choose_8 : decode cX1_choose 8 = .ok (.aload_n 0, 1) := by decide +kernel
theorem dX1_choose_9 : decode cX1_choose 9 = .ok (.lload_n 2, 1) := by decide +kernel
theorem dX1_choose_10 : decode cX1_choose 10 = .ok (.invokevirtual 92, 3) := by decide +kernel
theorem dX1_choose_13 : decode cX1_choose 13 = .ok (.return_, 1) := by decide +kernel
theorem dX1_choose_14 : decode cX1_choose 14 = .ok (.aload_n 0, 1) := by decide +kernel
theorem dX1_choose_15 : decode cX1_choose 15 = .ok (.iload_n 1, 1) := by decide +kernel
theorem dX1_choose_16 : decode cX1_choose 16 = .ok (.lload_n 2, 1) := by decide +kernel
theorem dX1_choose_17 : decode cX1_choose 17 = .ok (.invokevirtual 96, 3) := by decide +kernel
theorem dX1_choose_20 : decode cX1_choose 20 = .ok (.ifCond .ne 4, 3) := by decide +kernel
theorem dX1_choose_23 : decode cX1_choose 23 = .ok (.return_, 1) := by decide +kernel
theorem dX1_choose_24 : decode cX1_choose 24 = .ok (.aload_n 0, 1) := by decide +kernel
theorem dX1_choose_25 : decode cX1_choose 25 = .ok (.iload_n 1, 1) := by decide +kernel
theorem dX1_choose_26 : decode cX1_choose 26 = .ok (.invokevirtual 100, 3) := by decide +kernel
theorem dX1_choose_29 : decode cX1_choose 29 = .ok (.istore 4, 2) := by decide +kernel
theorem dX1_choose_31 : decode cX1_choose 31 = .ok (.iconst 0, 1) := by decide +kernel
theorem dX1_choose_32 : decode cX1_choose 32 = .ok (.istore 5, 2) := by decide +kernel
theorem dX1_choose_34 : decode cX1_choose 34 = .ok (.iload 5, 2) := by decide +kernel
theorem dX1_choose_36 : decode cX1_choose 36 = .ok (.aload_n 0, 1) := by decide +kernel
theorem dX1_choose_37 : decode cX1_choose 37 = .ok (.getfield 24, 3) := by decide +kernel
theorem dX1_choose_40 : decode cX1_choose 40 = .ok (.iload_n 1, 1) := by decide +kernel
theorem dX1_choose_41 : decode cX1_choose 41 = .ok (.iaload, 1) := by decide +kernel
theorem dX1_choose_42 : decode cX1_choose 42 = .ok (.if_icmp .ge 105, 3) := by decide +kernel
theorem dX1_choose_45 : decode cX1_choose 45 = .ok (.iload_n 1, 1) := by decide +kernel
theorem dX1_choose_46 : decode cX1_choose 46 = .ok (.bipush 12, 2) := by decide +kernel
theorem dX1_choose_48 : decode cX1_choose 48 = .ok (.imul, 1) := by decide +kernel
theorem dX1_choose_49 : decode cX1_choose 49 = .ok (.iload 5, 2) := by decide +kernel
theorem dX1_choose_51 : decode cX1_choose 51 = .ok (.iadd, 1) := by decide +kernel
theorem dX1_choose_52 : decode cX1_choose 52 = .ok (.istore 6, 2) := by decide +kernel
theorem dX1_choose_54 : decode cX1_choose 54 = .ok (.aload_n 0, 1) := by decide +kernel
theorem dX1_choose_55 : decode cX1_choose 55 = .ok (.getfield 45, 3) := by decide +kernel
theorem dX1_choose_58 : decode cX1_choose 58 = .ok (.iload 6, 2) := by decide +kernel
theorem dX1_choose_60 : decode cX1_choose 60 = .ok (.iaload, 1) := by decide +kernel
theorem dX1_choose_61 : decode cX1_choose 61 = .ok (.iload 4, 2) := by decide +kernel
theorem dX1_choose_63 : decode cX1_choose 63 = .ok (.if_icmp .lt 78, 3) := by decide +kernel
theorem dX1_choose_66 : decode cX1_choose 66 = .ok (.aload_n 0, 1) := by decide +kernel
theorem dX1_choose_67 : decode cX1_choose 67 = .ok (.iload_n 1, 1) := by decide +kernel
theorem dX1_choose_68 : decode cX1_choose 68 = .ok (.iload 6, 2) := by decide +kernel
theorem dX1_choose_70 : decode cX1_choose 70 = .ok (.invokevirtual 104, 3) := by decide +kernel
theorem dX1_choose_73 : decode cX1_choose 73 = .ok (.ifCond .eq 68, 3) := by decide +kernel
theorem dX1_choose_76 : decode cX1_choose 76 = .ok (.aload_n 0, 1) := by decide +kernel
theorem dX1_choose_77 : decode cX1_choose 77 = .ok (.iload_n 1, 1) := by decide +kernel
theorem dX1_choose_78 : decode cX1_choose 78 = .ok (.iload 5, 2) := by decide +kernel
theorem dX1_choose_80 : decode cX1_choose 80 = .ok (.invokevirtual 108, 3) := by decide +kernel
theorem dX1_choose_83 : decode cX1_choose 83 = .ok (.ifCond .ne 58, 3) := by decide +kernel
theorem dX1_choose_86 : decode cX1_choose 86 = .ok (.aload_n 0, 1) := by decide +kernel
theorem dX1_choose_87 : decode cX1_choose 87 = .ok (.getfield 27, 3) := by decide +kernel
theorem dX1_choose_90 : decode cX1_choose 90 = .ok (.iload_n 1, 1) := by decide +kernel
theorem dX1_choose_91 : decode cX1_choose 91 = .ok (.iload 5, 2) := by decide +kernel
theorem dX1_choose_93 : decode cX1_choose 93 = .ok (.iastore, 1) := by decide +kernel
theorem dX1_choose_94 : decode cX1_choose 94 = .ok (.aload_n 0, 1) := by decide +kernel
theorem dX1_choose_95 : decode cX1_choose 95 = .ok (.iload 6, 2) := by decide +kernel
theorem dX1_choose_97 : decode cX1_choose 97 = .ok (.aload_n 0, 1) := by decide +kernel
theorem dX1_choose_98 : decode cX1_choose 98 = .ok (.getfield 11, 3) := by decide +kernel
theorem dX1_choose_101 : decode cX1_choose 101 = .ok (.iload_n 1, 1) := by decide +kernel
theorem dX1_choose_102 : decode cX1_choose 102 = .ok (.aaload, 1) := by decide +kernel
theorem dX1_choose_103 : decode cX1_choose 103 = .ok (.getfield 76, 3) := by decide +kernel
theorem dX1_choose_106 : decode cX1_choose 106 = .ok (.invokevirtual 111, 3) := by decide +kernel
theorem dX1_choose_109 : decode cX1_choose 109 = .ok (.aload_n 0, 1) := by decide +kernel
theorem dX1_choose_110 : decode cX1_choose 110 = .ok (.iload_n 1, 1) := by decide +kernel
theorem dX1_choose_111 : decode cX1_choose 111 = .ok (.iconst 1, 1) := by decide +kernel
theorem dX1_choose_112 : decode cX1_choose 112 = .ok (.iadd, 1) := by decide +kernel
theorem dX1_choose_113 : decode cX1_choose 113 = .ok (.lload_n 2, 1) := by decide +kernel
theorem dX1_choose_114 : decode cX1_choose 114 = .ok (.aload_n 0, 1) := by decide +kernel
theorem dX1_choose_115 : decode cX1_choose 115 = .ok (.getfield 48, 3) := by decide +kernel
theorem dX1_choose_118 : decode cX1_choose 118 = .ok (.iload 6, 2) := by decide +kernel
theorem dX1_choose_120 : decode cX1_choose 120 = .ok (.laload, 1) := by decide +kernel
theorem dX1_choose_121 : decode cX1_choose 121 = .ok (.ladd, 1) := by decide +kernel
theorem dX1_choose_122 : decode cX1_choose 122 = .ok (.invokevirtual 79, 3) := by decide +kernel
theorem dX1_choose_125 : decode cX1_choose 125 = .ok (.aload_n 0, 1) := by decide +kernel
theorem dX1_choose_126 : decode cX1_choose 126 = .ok (.iload 6, 2) := by decide +kernel
theorem dX1_choose_128 : decode cX1_choose 128 = .ok (.aload_n 0, 1) := by decide +kernel
theorem dX1_choose_129 : decode cX1_choose 129 = .ok (.getfield 11, 3) := by decide +kernel
theorem dX1_choose_132 : decode cX1_choose 132 = .ok (.iload_n 1, 1) := by decide +kernel
theorem dX1_choose_133 : decode cX1_choose 133 = .ok (.aaload, 1) := by decide +kernel
theorem dX1_choose_134 : decode cX1_choose 134 = .ok (.getfield 76, 3) := by decide +kernel
theorem dX1_choose_137 : decode cX1_choose 137 = .ok (.ineg, 1) := by decide +kernel
theorem dX1_choose_138 : decode cX1_choose 138 = .ok (.invokevirtual 111, 3) := by decide +kernel
theorem dX1_choose_141 : decode cX1_choose 141 = .ok (.iinc 5 1, 3) := by decide +kernel
theorem dX1_choose_144 : decode cX1_choose 144 = .ok (.goto (-110), 3) := by decide +kernel
theorem dX1_choose_147 : decode cX1_choose 147 = .ok (.aload_n 0, 1) := by decide +kernel
theorem dX1_choose_148 : decode cX1_choose 148 = .ok (.iload_n 1, 1) := by decide +kernel
theorem dX1_choose_149 : decode cX1_choose 149 = .ok (.aload_n 0, 1) := by decide +kernel
theorem dX1_choose_150 : decode cX1_choose 150 = .ok (.getfield 24, 3) := by decide +kernel
theorem dX1_choose_153 : decode cX1_choose 153 = .ok (.iload_n 1, 1) := by decide +kernel
theorem dX1_choose_154 : decode cX1_choose 154 = .ok (.iaload, 1) := by decide +kernel
theorem dX1_choose_155 : decode cX1_choose 155 = .ok (.invokevirtual 108, 3) := by decide +kernel
theorem dX1_choose_158 : decode cX1_choose 158 = .ok (.ifCond .ne 23, 3) := by decide +kernel
theorem dX1_choose_161 : decode cX1_choose 161 = .ok (.aload_n 0, 1) := by decide +kernel
theorem dX1_choose_162 : decode cX1_choose 162 = .ok (.getfield 27, 3) := by decide +kernel
theorem dX1_choose_165 : decode cX1_choose 165 = .ok (.iload_n 1, 1) := by decide +kernel
theorem dX1_choose_166 : decode cX1_choose 166 = .ok (.aload_n 0, 1) := by decide +kernel
theorem dX1_choose_167 : decode cX1_choose 167 = .ok (.getfield 24, 3) := by decide +kernel
theorem dX1_choose_170 : decode cX1_choose 170 = .ok (.iload_n 1, 1) := by decide +kernel
theorem dX1_choose_171 : decode cX1_choose 171 = .ok (.iaload, 1) := by decide +kernel
theorem dX1_choose_172 : decode cX1_choose 172 = .ok (.iastore, 1) := by decide +kernel
theorem dX1_choose_173 : decode cX1_choose 173 = .ok (.aload_n 0, 1) := by decide +kernel
theorem dX1_choose_174 : decode cX1_choose 174 = .ok (.iload_n 1, 1) := by decide +kernel
theorem dX1_choose_175 : decode cX1_choose 175 = .ok (.iconst 1, 1) := by decide +kernel
theorem dX1_choose_176 : decode cX1_choose 176 = .ok (.iadd, 1) := by decide +kernel
theorem dX1_choose_177 : decode cX1_choose 177 = .ok (.lload_n 2, 1) := by decide +kernel
theorem dX1_choose_178 : decode cX1_choose 178 = .ok (.invokevirtual 79, 3) := by decide +kernel
theorem dX1_choose_181 : decode cX1_choose 181 = .ok (.return_, 1) := by decide +kernel
theorem dX1_twinPlace_0 : decode cX1_twinPlace 0 = .ok (.aload_n 0, 1) := by decide +kernel
theorem dX1_twinPlace_1 : decode cX1_twinPlace 1 = .ok (.getfield 21, 3) := by decide +kernel
theorem dX1_twinPlace_4 : decode cX1_twinPlace 4 = .ok (.iload_n 1, 1) := by decide +kernel
theorem dX1_twinPlace_5 : decode cX1_twinPlace 5 = .ok (.iaload, 1) := by decide +kernel
theorem dX1_twinPlace_6 : decode cX1_twinPlace 6 = .ok (.istore_n 2, 1) := by decide +kernel
theorem dX1_twinPlace_7 : decode cX1_twinPlace 7 = .ok (.iload_n 2, 1) := by decide +kernel
theorem dX1_twinPlace_8 : decode cX1_twinPlace 8 = .ok (.iconst (-1), 1) := by decide +kernel
theorem dX1_twinPlace_9 : decode cX1_twinPlace 9 = .ok (.if_icmp .ne 5, 3) := by decide +kernel
theorem dX1_twinPlace_12 : decode cX1_twinPlace 12 = .ok (.iconst 0, 1) := by decide +kernel
theorem dX1_twinPlace_13 : decode cX1_twinPlace 13 = .ok (.ireturn, 1) := by decide +kernel
theorem dX1_twinPlace_14 : decode cX1_twinPlace 14 = .ok (.aload_n 0, 1) := by decide +kernel
theorem dX1_twinPlace_15 : decode cX1_twinPlace 15 = .ok (.getfield 27, 3) := by decide +kernel
theorem dX1_twinPlace_18 : decode cX1_twinPlace 18 = .ok (.iload_n 2, 1) := by decide +kernel
theorem dX1_twinPlace_19 : decode cX1_twinPlace 19 = .ok (.iaload, 1) := by decide +kernel
theorem dX1_twinPlace_20 : decode cX1_twinPlace 20 = .ok (.aload_n 0, 1) := by decide +kernel
theorem dX1_twinPlace_21 : decode cX1_twinPlace 21 = .ok (.getfield 24, 3) := by decide +kernel
theorem dX1_twinPlace_24 : decode cX1_twinPlace 24 = .ok (.iload_n 2, 1) := by decide +kernel
theorem dX1_twinPlace_25 : decode cX1_twinPlace 25 = .ok (.iaload, 1) := by decide +kernel
theorem dX1_twinPlace_26 : decode cX1_twinPlace 26 = .ok (.if_icmp .ge 22, 3) := by decide +kernel
theorem dX1_twinPlace_29 : decode cX1_twinPlace 29 = .ok (.aload_n 0, 1) := by decide +kernel
theorem dX1_twinPlace_30 : decode cX1_twinPlace 30 = .ok (.getfield 45, 3) := by decide +kernel
theorem dX1_twinPlace_33 : decode cX1_twinPlace 33 = .ok (.iload_n 2, 1) := by decide +kernel
theorem dX1_twinPlace_34 : decode cX1_twinPlace 34 = .ok (.bipush 12, 2) := by decide +kernel
theorem dX1_twinPlace_36 : decode cX1_twinPlace 36 = .ok (.imul, 1) := by decide +kernel
theorem dX1_twinPlace_37 : decode cX1_twinPlace 37 = .ok (.aload_n 0, 1) := by decide +kernel
theorem dX1_twinPlace_38 : decode cX1_twinPlace 38 = .ok (.getfield 27, 3) := by decide +kernel
theorem dX1_twinPlace_41 : decode cX1_twinPlace 41 = .ok (.iload_n 2, 1) := by decide +kernel
theorem dX1_twinPlace_42 : decode cX1_twinPlace 42 = .ok (.iaload, 1) := by decide +kernel
theorem dX1_twinPlace_43 : decode cX1_twinPlace 43 = .ok (.iadd, 1) := by decide +kernel
theorem dX1_twinPlace_44 : decode cX1_twinPlace 44 = .ok (.iaload, 1) := by decide +kernel
theorem dX1_twinPlace_45 : decode cX1_twinPlace 45 = .ok (.goto 5, 3) := by decide +kernel
theorem dX1_twinPlace_48 : decode cX1_twinPlace 48 = .ok (.bipush 15, 2) := by decide +kernel
theorem dX1_twinPlace_50 : decode cX1_twinPlace 50 = .ok (.ireturn, 1) := by decide +kernel
theorem dX1_keepIfBetter_0 : decode cX1_keepIfBetter 0 = .ok (.lload_n 1, 1) := by decide +kernel
theorem dX1_keepIfBetter_1 : decode cX1_keepIfBetter 1 = .ok (.aload_n 0, 1) := by decide +kernel
theorem dX1_keepIfBetter_2 : decode cX1_keepIfBetter 2 = .ok (.getfield 52, 3) := by decide +kernel
theorem dX1_keepIfBetter_5 : decode cX1_keepIfBetter 5 = .ok (.lcmp, 1) := by decide +kernel
theorem dX1_keepIfBetter_6 : decode cX1_keepIfBetter 6 = .ok (.ifCond .le 36, 3) := by decide +kernel
theorem dX1_keepIfBetter_9 : decode cX1_keepIfBetter 9 = .ok (.aload_n 0, 1) := by decide +kernel
theorem dX1_keepIfBetter_10 : decode cX1_keepIfBetter 10 = .ok (.lload_n 1, 1) := by decide +kernel
theorem dX1_keepIfBetter_11 : decode cX1_keepIfBetter 11 = .ok (.putfield 52, 3) := by decide +kernel
theorem dX1_keepIfBetter_14 : decode cX1_keepIfBetter 14 = .ok (.iconst 0, 1) := by decide +kernel
theorem dX1_keepIfBetter_15 : decode cX1_keepIfBetter 15 = .ok (.istore_n 3, 1) := by decide +kernel
theorem dX1_keepIfBetter_16 : decode cX1_keepIfBetter 16 = .ok (.iload_n 3, 1) := by decide +kernel
theorem dX1_keepIfBetter_17 : decode cX1_keepIfBetter 17 = .ok (.aload_n 0, 1) := by decide +kernel
theorem dX1_keepIfBetter_18 : decode cX1_keepIfBetter 18 = .ok (.getfield 56, 3) := by decide +kernel
theorem dX1_keepIfBetter_21 : decode cX1_keepIfBetter 21 = .ok (.if_icmp .ge 21, 3) := by decide +kernel
theorem dX1_keepIfBetter_24 : decode cX1_keepIfBetter 24 = .ok (.aload_n 0, 1) := by decide +kernel
theorem dX1_keepIfBetter_25 : decode cX1_keepIfBetter 25 = .ok (.getfield 30, 3) := by decide +kernel
theorem dX1_keepIfBetter_28 : decode cX1_keepIfBetter 28 = .ok (.iload_n 3, 1) := by decide +kernel
theorem dX1_keepIfBetter_29 : decode cX1_keepIfBetter 29 = .ok (.aload_n 0, 1) := by decide +kernel
theorem dX1_keepIfBetter_30 : decode cX1_keepIfBetter 30 = .ok (.getfield 27, 3) := by decide +kernel
theorem dX1_keepIfBetter_33 : decode cX1_keepIfBetter 33 = .ok (.iload_n 3, 1) := by decide +kernel
theorem dX1_keepIfBetter_34 : decode cX1_keepIfBetter 34 = .ok (.iaload, 1) := by decide +kernel
theorem dX1_keepIfBetter_35 : decode cX1_keepIfBetter 35 = .ok (.iastore, 1) := by decide +kernel
theorem dX1_keepIfBetter_36 : decode cX1_keepIfBetter 36 = .ok (.iinc 3 1, 3) := by decide +kernel
theorem dX1_keepIfBetter_39 : decode cX1_keepIfBetter 39 = .ok (.goto (-23), 3) := by decide +kernel
theorem dX1_keepIfBetter_42 : decode cX1_keepIfBetter 42 = .ok (.return_, 1) := by decide +kernel
theorem dX1_mayBeat_0 : decode cX1_mayBeat 0 = .ok (.lload_n 2, 1) := by decide +kernel
theorem dX1_mayBeat_1 : decode cX1_mayBeat 1 = .ok (.lstore 4, 2) := by decide +kernel
theorem dX1_mayBeat_3 : decode cX1_mayBeat 3 = .ok (.iload_n 1, 1) := by decide +kernel
theorem dX1_mayBeat_4 : decode cX1_mayBeat 4 = .ok (.istore 6, 2) := by decide +kernel
theorem dX1_mayBeat_6 : decode cX1_mayBeat 6 = .ok (.iload 6, 2) := by decide +kernel
theorem dX1_mayBeat_8 : decode cX1_mayBeat 8 = .ok (.aload_n 0, 1) := by decide +kernel
theorem dX1_mayBeat_9 : decode cX1_mayBeat 9 = .ok (.getfield 56, 3) := by decide +kernel
theorem dX1_mayBeat_12 : decode cX1_mayBeat 12 = .ok (.if_icmp .ge 20, 3) := by decide +kernel
theorem dX1_mayBeat_15 : decode cX1_mayBeat 15 = .ok (.lload 4, 2) := by decide +kernel
theorem dX1_mayBeat_17 : decode cX1_mayBeat 17 = .ok (.aload_n 0, 1) := by decide +kernel
theorem dX1_mayBeat_18 : decode cX1_mayBeat 18 = .ok (.iload 6, 2) := by decide +kernel
theorem dX1_mayBeat_20 : decode cX1_mayBeat 20 = .ok (.invokevirtual 115, 3) := by decide +kernel
theorem dX1_mayBeat_23 : decode cX1_mayBeat 23 = .ok (.ladd, 1) := by decide +kernel
theorem dX1_mayBeat_24 : decode cX1_mayBeat 24 = .ok (.lstore 4, 2) := by decide +kernel
theorem dX1_mayBeat_26 : decode cX1_mayBeat 26 = .ok (.iinc 6 1, 3) := by decide +kernel
theorem dX1_mayBeat_29 : decode cX1_mayBeat 29 = .ok (.goto (-23), 3) := by decide +kernel
theorem dX1_mayBeat_32 : decode cX1_mayBeat 32 = .ok (.lload 4, 2) := by decide +kernel
theorem dX1_mayBeat_34 : decode cX1_mayBeat 34 = .ok (.aload_n 0, 1) := by decide +kernel
theorem dX1_mayBeat_35 : decode cX1_mayBeat 35 = .ok (.getfield 52, 3) := by decide +kernel
theorem dX1_mayBeat_38 : decode cX1_mayBeat 38 = .ok (.lcmp, 1) := by decide +kernel
theorem dX1_mayBeat_39 : decode cX1_mayBeat 39 = .ok (.ifCond .le 7, 3) := by decide +kernel
theorem dX1_mayBeat_42 : decode cX1_mayBeat 42 = .ok (.iconst 1, 1) := by decide +kernel
theorem dX1_mayBeat_43 : decode cX1_mayBeat 43 = .ok (.goto 4, 3) := by decide +kernel
theorem dX1_mayBeat_46 : decode cX1_mayBeat 46 = .ok (.iconst 0, 1) := by decide +kernel
theorem dX1_mayBeat_47 : decode cX1_mayBeat 47 = .ok (.ireturn, 1) := by decide +kernel
theorem dX1_mostWorth_0 : decode cX1_mostWorth 0 = .ok (.iconst 0, 1) := by decide +kernel
theorem dX1_mostWorth_1 : decode cX1_mostWorth 1 = .ok (.istore_n 2, 1) := by decide +kernel
theorem dX1_mostWorth_2 : decode cX1_mostWorth 2 = .ok (.iload_n 2, 1) := by decide +kernel
theorem dX1_mostWorth_3 : decode cX1_mostWorth 3 = .ok (.aload_n 0, 1) := by decide +kernel
theorem dX1_mostWorth_4 : decode cX1_mostWorth 4 = .ok (.getfield 24, 3) := by decide +kernel
theorem dX1_mostWorth_7 : decode cX1_mostWorth 7 = .ok (.iload_n 1, 1) := by decide +kernel
theorem dX1_mostWorth_8 : decode cX1_mostWorth 8 = .ok (.iaload, 1) := by decide +kernel
theorem dX1_mostWorth_9 : decode cX1_mostWorth 9 = .ok (.if_icmp .ge 32, 3) := by decide +kernel
theorem dX1_mostWorth_12 : decode cX1_mostWorth 12 = .ok (.iload_n 1, 1) := by decide +kernel
theorem dX1_mostWorth_13 : decode cX1_mostWorth 13 = .ok (.bipush 12, 2) := by decide +kernel
theorem dX1_mostWorth_15 : decode cX1_mostWorth 15 = .ok (.imul, 1) := by decide +kernel
theorem dX1_mostWorth_16 : decode cX1_mostWorth 16 = .ok (.iload_n 2, 1) := by decide +kernel
theorem dX1_mostWorth_17 : decode cX1_mostWorth 17 = .ok (.iadd, 1) := by decide +kernel
theorem dX1_mostWorth_18 : decode cX1_mostWorth 18 = .ok (.istore_n 3, 1) := by decide +kernel
theorem dX1_mostWorth_19 : decode cX1_mostWorth 19 = .ok (.aload_n 0, 1) := by decide +kernel
theorem dX1_mostWorth_20 : decode cX1_mostWorth 20 = .ok (.iload_n 1, 1) := by decide +kernel
theorem dX1_mostWorth_21 : decode cX1_mostWorth 21 = .ok (.iload_n 3, 1) := by decide +kernel
theorem dX1_mostWorth_22 : decode cX1_mostWorth 22 = .ok (.invokevirtual 104, 3) := by decide +kernel
theorem dX1_mostWorth_25 : decode cX1_mostWorth 25 = .ok (.ifCond .eq 10, 3) := by decide +kernel
theorem dX1_mostWorth_28 : decode cX1_mostWorth 28 = .ok (.aload_n 0, 1) := by decide +kernel
theorem dX1_mostWorth_29 : decode cX1_mostWorth 29 = .ok (.getfield 48, 3) := by decide +kernel
theorem dX1_mostWorth_32 : decode cX1_mostWorth 32 = .ok (.iload_n 3, 1) := by decide +kernel
theorem dX1_mostWorth_33 : decode cX1_mostWorth 33 = .ok (.laload, 1) := by decide +kernel
theorem dX1_mostWorth_34 : decode cX1_mostWorth 34 = .ok (.lreturn, 1) := by decide +kernel
theorem dX1_mostWorth_35 : decode cX1_mostWorth 35 = .ok (.iinc 2 1, 3) := by decide +kernel
theorem dX1_mostWorth_38 : decode cX1_mostWorth 38 = .ok (.goto (-36), 3) := by decide +kernel
theorem dX1_mostWorth_41 : decode cX1_mostWorth 41 = .ok (.lconst 0, 1) := by decide +kernel
theorem dX1_mostWorth_42 : decode cX1_mostWorth 42 = .ok (.lreturn, 1) := by decide +kernel
theorem dX1_fits_0 : decode cX1_fits 0 = .ok (.aload_n 0, 1) := by decide +kernel
theorem dX1_fits_1 : decode cX1_fits 1 = .ok (.getfield 11, 3) := by decide +kernel
theorem dX1_fits_4 : decode cX1_fits 4 = .ok (.iload_n 1, 1) := by decide +kernel
theorem dX1_fits_5 : decode cX1_fits 5 = .ok (.aaload, 1) := by decide +kernel
theorem dX1_fits_6 : decode cX1_fits 6 = .ok (.getfield 76, 3) := by decide +kernel
theorem dX1_fits_9 : decode cX1_fits 9 = .ok (.istore_n 3, 1) := by decide +kernel
theorem dX1_fits_10 : decode cX1_fits 10 = .ok (.aload_n 0, 1) := by decide +kernel
theorem dX1_fits_11 : decode cX1_fits 11 = .ok (.getfield 38, 3) := by decide +kernel
theorem dX1_fits_14 : decode cX1_fits 14 = .ok (.iload_n 2, 1) := by decide +kernel
theorem dX1_fits_15 : decode cX1_fits 15 = .ok (.aaload, 1) := by decide +kernel
theorem dX1_fits_16 : decode cX1_fits 16 = .ok (.getfield 119, 3) := by decide +kernel
theorem dX1_fits_19 : decode cX1_fits 19 = .ok (.iload_n 3, 1) := by decide +kernel
theorem dX1_fits_20 : decode cX1_fits 20 = .ok (.if_icmp .lt 29, 3) := by decide +kernel
theorem dX1_fits_23 : decode cX1_fits 23 = .ok (.aload_n 0, 1) := by decide +kernel
theorem dX1_fits_24 : decode cX1_fits 24 = .ok (.getfield 42, 3) := by decide +kernel
theorem dX1_fits_27 : decode cX1_fits 27 = .ok (.iload_n 2, 1) := by decide +kernel
theorem dX1_fits_28 : decode cX1_fits 28 = .ok (.aaload, 1) := by decide +kernel
theorem dX1_fits_29 : decode cX1_fits 29 = .ok (.ifnull 16, 3) := by decide +kernel
theorem dX1_fits_32 : decode cX1_fits 32 = .ok (.aload_n 0, 1) := by decide +kernel
theorem dX1_fits_33 : decode cX1_fits 33 = .ok (.getfield 42, 3) := by decide +kernel
theorem dX1_fits_36 : decode cX1_fits 36 = .ok (.iload_n 2, 1) := by decide +kernel
theorem dX1_fits_37 : decode cX1_fits 37 = .ok (.aaload, 1) := by decide +kernel
theorem dX1_fits_38 : decode cX1_fits 38 = .ok (.getfield 119, 3) := by decide +kernel
theorem dX1_fits_41 : decode cX1_fits 41 = .ok (.iload_n 3, 1) := by decide +kernel
theorem dX1_fits_42 : decode cX1_fits 42 = .ok (.if_icmp .lt 7, 3) := by decide +kernel
theorem dX1_fits_45 : decode cX1_fits 45 = .ok (.iconst 1, 1) := by decide +kernel
theorem dX1_fits_46 : decode cX1_fits 46 = .ok (.goto 4, 3) := by decide +kernel
theorem dX1_fits_49 : decode cX1_fits 49 = .ok (.iconst 0, 1) := by decide +kernel
theorem dX1_fits_50 : decode cX1_fits 50 = .ok (.ireturn, 1) := by decide +kernel
theorem dX1_fill_0 : decode cX1_fill 0 = .ok (.aload_n 0, 1) := by decide +kernel
theorem dX1_fill_1 : decode cX1_fill 1 = .ok (.getfield 38, 3) := by decide +kernel
theorem dX1_fill_4 : decode cX1_fill 4 = .ok (.iload_n 1, 1) := by decide +kernel
theorem dX1_fill_5 : decode cX1_fill 5 = .ok (.aaload, 1) := by decide +kernel
theorem dX1_fill_6 : decode cX1_fill 6 = .ok (.dup, 1) := by decide +kernel
theorem dX1_fill_7 : decode cX1_fill 7 = .ok (.getfield 119, 3) := by decide +kernel
theorem dX1_fill_10 : decode cX1_fill 10 = .ok (.iload_n 2, 1) := by decide +kernel
theorem dX1_fill_11 : decode cX1_fill 11 = .ok (.isub, 1) := by decide +kernel
theorem dX1_fill_12 : decode cX1_fill 12 = .ok (.putfield 119, 3) := by decide +kernel
theorem dX1_fill_15 : decode cX1_fill 15 = .ok (.aload_n 0, 1) := by decide +kernel
theorem dX1_fill_16 : decode cX1_fill 16 = .ok (.getfield 42, 3) := by decide +kernel
theorem dX1_fill_19 : decode cX1_fill 19 = .ok (.iload_n 1, 1) := by decide +kernel
theorem dX1_fill_20 : decode cX1_fill 20 = .ok (.aaload, 1) := by decide +kernel
theorem dX1_fill_21 : decode cX1_fill 21 = .ok (.ifnull 18, 3) := by decide +kernel
theorem dX1_fill_24 : decode cX1_fill 24 = .ok (.aload_n 0, 1) := by decide +kernel
theorem dX1_fill_25 : decode cX1_fill 25 = .ok (.getfield 42, 3) := by decide +kernel
theorem dX1_fill_28 : decode cX1_fill 28 = .ok (.iload_n 1, 1) := by decide +kernel
theorem dX1_fill_29 : decode cX1_fill 29 = .ok (.aaload, 1) := by decide +kernel
theorem dX1_fill_30 : decode cX1_fill 30 = .ok (.dup, 1) := by decide +kernel
theorem dX1_fill_31 : decode cX1_fill 31 = .ok (.getfield 119, 3) := by decide +kernel
theorem dX1_fill_34 : decode cX1_fill 34 = .ok (.iload_n 2, 1) := by decide +kernel
theorem dX1_fill_35 : decode cX1_fill 35 = .ok (.isub, 1) := by decide +kernel
theorem dX1_fill_36 : decode cX1_fill 36 = .ok (.putfield 119, 3) := by decide +kernel
theorem dX1_fill_39 : decode cX1_fill 39 = .ok (.return_, 1) := by decide +kernel
theorem dX1_betterHasRoom_0 : decode cX1_betterHasRoom 0 = .ok (.iconst 0, 1) := by decide +kernel
theorem dX1_betterHasRoom_1 : decode cX1_betterHasRoom 1 = .ok (.istore_n 3, 1) := by decide +kernel
theorem dX1_betterHasRoom_2 : decode cX1_betterHasRoom 2 = .ok (.iload_n 3, 1) := by decide +kernel
theorem dX1_betterHasRoom_3 : decode cX1_betterHasRoom 3 = .ok (.iload_n 2, 1) := by decide +kernel
theorem dX1_betterHasRoom_4 : decode cX1_betterHasRoom 4 = .ok (.if_icmp .ge 61, 3) := by decide +kernel
theorem dX1_betterHasRoom_7 : decode cX1_betterHasRoom 7 = .ok (.iload_n 1, 1) := by decide +kernel
theorem dX1_betterHasRoom_8 : decode cX1_betterHasRoom 8 = .ok (.bipush 12, 2) := by decide +kernel
theorem dX1_betterHasRoom_10 : decode cX1_betterHasRoom 10 = .ok (.imul, 1) := by decide +kernel
theorem dX1_betterHasRoom_11 : decode cX1_betterHasRoom 11 = .ok (.iload_n 3, 1) := by decide +kernel
theorem dX1_betterHasRoom_12 : decode cX1_betterHasRoom 12 = .ok (.iadd, 1) := by decide +kernel
theorem dX1_betterHasRoom_13 : decode cX1_betterHasRoom 13 = .ok (.istore 4, 2) := by decide +kernel
theorem dX1_betterHasRoom_15 : decode cX1_betterHasRoom 15 = .ok (.aload_n 0, 1) := by decide +kernel
theorem dX1_betterHasRoom_16 : decode cX1_betterHasRoom 16 = .ok (.iload_n 1, 1) := by decide +kernel
theorem dX1_betterHasRoom_17 : decode cX1_betterHasRoom 17 = .ok (.iload_n 2, 1) := by decide +kernel
theorem dX1_betterHasRoom_18 : decode cX1_betterHasRoom 18 = .ok (.aload_n 0, 1) := by decide +kernel
theorem dX1_betterHasRoom_19 : decode cX1_betterHasRoom 19 = .ok (.getfield 38, 3) := by decide +kernel
theorem dX1_betterHasRoom_22 : decode cX1_betterHasRoom 22 = .ok (.iload 4, 2) := by decide +kernel
theorem dX1_betterHasRoom_24 : decode cX1_betterHasRoom 24 = .ok (.aaload, 1) := by decide +kernel
theorem dX1_betterHasRoom_25 : decode cX1_betterHasRoom 25 = .ok (.invokevirtual 122, 3) := by decide +kernel
theorem dX1_betterHasRoom_28 : decode cX1_betterHasRoom 28 = .ok (.ifCond .eq 31, 3) := by decide +kernel
theorem dX1_betterHasRoom_31 : decode cX1_betterHasRoom 31 = .ok (.aload_n 0, 1) := by decide +kernel
theorem dX1_betterHasRoom_32 : decode cX1_betterHasRoom 32 = .ok (.getfield 42, 3) := by decide +kernel
theorem dX1_betterHasRoom_35 : decode cX1_betterHasRoom 35 = .ok (.iload 4, 2) := by decide +kernel
theorem dX1_betterHasRoom_37 : decode cX1_betterHasRoom 37 = .ok (.aaload, 1) := by decide +kernel
theorem dX1_betterHasRoom_38 : decode cX1_betterHasRoom 38 = .ok (.ifnull 19, 3) := by decide +kernel
theorem dX1_betterHasRoom_41 : decode cX1_betterHasRoom 41 = .ok (.aload_n 0, 1) := by decide +kernel
theorem dX1_betterHasRoom_42 : decode cX1_betterHasRoom 42 = .ok (.iload_n 1, 1) := by decide +kernel
theorem dX1_betterHasRoom_43 : decode cX1_betterHasRoom 43 = .ok (.iload_n 2, 1) := by decide +kernel
theorem dX1_betterHasRoom_44 : decode cX1_betterHasRoom 44 = .ok (.aload_n 0, 1) := by decide +kernel
theorem dX1_betterHasRoom_45 : decode cX1_betterHasRoom 45 = .ok (.getfield 42, 3) := by decide +kernel
theorem dX1_betterHasRoom_48 : decode cX1_betterHasRoom 48 = .ok (.iload 4, 2) := by decide +kernel
theorem dX1_betterHasRoom_50 : decode cX1_betterHasRoom 50 = .ok (.aaload, 1) := by decide +kernel
theorem dX1_betterHasRoom_51 : decode cX1_betterHasRoom 51 = .ok (.invokevirtual 122, 3) := by decide +kernel
theorem dX1_betterHasRoom_54 : decode cX1_betterHasRoom 54 = .ok (.ifCond .eq 5, 3) := by decide +kernel
theorem dX1_betterHasRoom_57 : decode cX1_betterHasRoom 57 = .ok (.iconst 1, 1) := by decide +kernel
theorem dX1_betterHasRoom_58 : decode cX1_betterHasRoom 58 = .ok (.ireturn, 1) := by decide +kernel
theorem dX1_betterHasRoom_59 : decode cX1_betterHasRoom 59 = .ok (.iinc 3 1, 3) := by decide +kernel
theorem dX1_betterHasRoom_62 : decode cX1_betterHasRoom 62 = .ok (.goto (-60), 3) := by decide +kernel
theorem dX1_betterHasRoom_65 : decode cX1_betterHasRoom 65 = .ok (.iconst 0, 1) := by decide +kernel
theorem dX1_betterHasRoom_66 : decode cX1_betterHasRoom 66 = .ok (.ireturn, 1) := by decide +kernel
theorem dX1_hasRoom_0 : decode cX1_hasRoom 0 = .ok (.aload_n 3, 1) := by decide +kernel
theorem dX1_hasRoom_1 : decode cX1_hasRoom 1 = .ok (.getfield 119, 3) := by decide +kernel
theorem dX1_hasRoom_4 : decode cX1_hasRoom 4 = .ok (.aload_n 0, 1) := by decide +kernel
theorem dX1_hasRoom_5 : decode cX1_hasRoom 5 = .ok (.getfield 33, 3) := by decide +kernel
theorem dX1_hasRoom_8 : decode cX1_hasRoom 8 = .ok (.iload_n 1, 1) := by decide +kernel
theorem dX1_hasRoom_9 : decode cX1_hasRoom 9 = .ok (.iaload, 1) := by decide +kernel
theorem dX1_hasRoom_10 : decode cX1_hasRoom 10 = .ok (.if_icmp .lt 5, 3) := by decide +kernel
theorem dX1_hasRoom_13 : decode cX1_hasRoom 13 = .ok (.iconst 1, 1) := by decide +kernel
theorem dX1_hasRoom_14 : decode cX1_hasRoom 14 = .ok (.ireturn, 1) := by decide +kernel
theorem dX1_hasRoom_15 : decode cX1_hasRoom 15 = .ok (.iload_n 1, 1) := by decide +kernel
theorem dX1_hasRoom_16 : decode cX1_hasRoom 16 = .ok (.bipush 12, 2) := by decide +kernel
theorem dX1_hasRoom_18 : decode cX1_hasRoom 18 = .ok (.imul, 1) := by decide +kernel
theorem dX1_hasRoom_19 : decode cX1_hasRoom 19 = .ok (.iload_n 2, 1) := by decide +kernel
theorem dX1_hasRoom_20 : decode cX1_hasRoom 20 = .ok (.iadd, 1) := by decide +kernel
theorem dX1_hasRoom_21 : decode cX1_hasRoom 21 = .ok (.istore 4, 2) := by decide +kernel
theorem dX1_hasRoom_23 : decode cX1_hasRoom 23 = .ok (.iload_n 2, 1) := by decide +kernel
theorem dX1_hasRoom_24 : decode cX1_hasRoom 24 = .ok (.aload_n 0, 1) := by decide +kernel
theorem dX1_hasRoom_25 : decode cX1_hasRoom 25 = .ok (.getfield 24, 3) := by decide +kernel
theorem dX1_hasRoom_28 : decode cX1_hasRoom 28 = .ok (.iload_n 1, 1) := by decide +kernel
theorem dX1_hasRoom_29 : decode cX1_hasRoom 29 = .ok (.iaload, 1) := by decide +kernel
theorem dX1_hasRoom_30 : decode cX1_hasRoom 30 = .ok (.if_icmp .ge 29, 3) := by decide +kernel
theorem dX1_hasRoom_33 : decode cX1_hasRoom 33 = .ok (.aload_n 3, 1) := by decide +kernel
theorem dX1_hasRoom_34 : decode cX1_hasRoom 34 = .ok (.aload_n 0, 1) := by decide +kernel
theorem dX1_hasRoom_35 : decode cX1_hasRoom 35 = .ok (.getfield 38, 3) := by decide +kernel
theorem dX1_hasRoom_38 : decode cX1_hasRoom 38 = .ok (.iload 4, 2) := by decide +kernel
theorem dX1_hasRoom_40 : decode cX1_hasRoom 40 = .ok (.aaload, 1) := by decide +kernel
theorem dX1_hasRoom_41 : decode cX1_hasRoom 41 = .ok (.if_acmp .eq 14, 3) := by decide +kernel
theorem dX1_hasRoom_44 : decode cX1_hasRoom 44 = .ok (.aload_n 3, 1) := by decide +kernel
theorem dX1_hasRoom_45 : decode cX1_hasRoom 45 = .ok (.aload_n 0, 1) := by decide +kernel
theorem dX1_hasRoom_46 : decode cX1_hasRoom 46 = .ok (.getfield 42, 3) := by decide +kernel
theorem dX1_hasRoom_49 : decode cX1_hasRoom 49 = .ok (.iload 4, 2) := by decide +kernel
theorem dX1_hasRoom_51 : decode cX1_hasRoom 51 = .ok (.aaload, 1) := by decide +kernel
theorem dX1_hasRoom_52 : decode cX1_hasRoom 52 = .ok (.if_acmp .ne 7, 3) := by decide +kernel
theorem dX1_hasRoom_55 : decode cX1_hasRoom 55 = .ok (.iconst 1, 1) := by decide +kernel
theorem dX1_hasRoom_56 : decode cX1_hasRoom 56 = .ok (.goto 4, 3) := by decide +kernel
theorem dX1_hasRoom_59 : decode cX1_hasRoom 59 = .ok (.iconst 0, 1) := by decide +kernel
theorem dX1_hasRoom_60 : decode cX1_hasRoom 60 = .ok (.ireturn, 1) := by decide +kernel
theorem dX2_init_0 : decode cX2_init 0 = .ok (.aload_n 0, 1) := by decide +kernel
theorem dX2_init_1 : decode cX2_init 1 = .ok (.invokespecial 3, 3) := by decide +kernel
theorem dX2_init_4 : decode cX2_init 4 = .ok (.aload_n 0, 1) := by decide +kernel
theorem dX2_init_5 : decode cX2_init 5 = .ok (.iconst 0, 1) := by decide +kernel
theorem dX2_init_6 : decode cX2_init 6 = .ok (.putfield 9, 3) := by decide +kernel
theorem dX2_init_9 : decode cX2_init 9 = .ok (.aload_n 0, 1) := by decide +kernel
theorem dX2_init_10 : decode cX2_init 10 = .ok (.iconst 0, 1) := by decide +kernel
theorem dX2_init_11 : decode cX2_init 11 = .ok (.putfield 15, 3) := by decide +kernel
theorem dX2_init_14 : decode cX2_init 14 = .ok (.aload_n 0, 1) := by decide +kernel
theorem dX2_init_15 : decode cX2_init 15 = .ok (.aconst_null, 1) := by decide +kernel
theorem dX2_init_16 : decode cX2_init 16 = .ok (.putfield 18, 3) := by decide +kernel
theorem dX2_init_19 : decode cX2_init 19 = .ok (.aload_n 0, 1) := by decide +kernel
theorem dX2_init_20 : decode cX2_init 20 = .ok (.aconst_null, 1) := by decide +kernel
theorem dX2_init_21 : decode cX2_init 21 = .ok (.putfield 22, 3) := by decide +kernel
theorem dX2_init_24 : decode cX2_init 24 = .ok (.aload_n 0, 1) := by decide +kernel
theorem dX2_init_25 : decode cX2_init 25 = .ok (.aload_n 1, 1) := by decide +kernel
theorem dX2_init_26 : decode cX2_init 26 = .ok (.putfield 25, 3) := by decide +kernel
theorem dX2_init_29 : decode cX2_init 29 = .ok (.aload_n 0, 1) := by decide +kernel
theorem dX2_init_30 : decode cX2_init 30 = .ok (.iload_n 2, 1) := by decide +kernel
theorem dX2_init_31 : decode cX2_init 31 = .ok (.putfield 28, 3) := by decide +kernel
theorem dX2_init_34 : decode cX2_init 34 = .ok (.aload_n 0, 1) := by decide +kernel
theorem dX2_init_35 : decode cX2_init 35 = .ok (.iload_n 3, 1) := by decide +kernel
theorem dX2_init_36 : decode cX2_init 36 = .ok (.putfield 31, 3) := by decide +kernel
theorem dX2_init_39 : decode cX2_init 39 = .ok (.aload_n 0, 1) := by decide +kernel
theorem dX2_init_40 : decode cX2_init 40 = .ok (.iload 4, 2) := by decide +kernel
theorem dX2_init_42 : decode cX2_init 42 = .ok (.putfield 34, 3) := by decide +kernel
theorem dX2_init_45 : decode cX2_init 45 = .ok (.aload_n 0, 1) := by decide +kernel
theorem dX2_init_46 : decode cX2_init 46 = .ok (.iload 5, 2) := by decide +kernel
theorem dX2_init_48 : decode cX2_init 48 = .ok (.putfield 37, 3) := by decide +kernel
theorem dX2_init_51 : decode cX2_init 51 = .ok (.return_, 1) := by decide +kernel
theorem dX2_fliesOn_0 : decode cX2_fliesOn 0 = .ok (.aload_n 0, 1) := by decide +kernel
theorem dX2_fliesOn_1 : decode cX2_fliesOn 1 = .ok (.getfield 9, 3) := by decide +kernel
theorem dX2_fliesOn_4 : decode cX2_fliesOn 4 = .ok (.ifCond .ne 15, 3) := by decide +kernel
theorem dX2_fliesOn_7 : decode cX2_fliesOn 7 = .ok (.aload_n 0, 1) := by decide +kernel
theorem dX2_fliesOn_8 : decode cX2_fliesOn 8 = .ok (.getfield 25, 3) := by decide +kernel
theorem dX2_fliesOn_11 : decode cX2_fliesOn 11 = .ok (.aload_n 1, 1) := by decide +kernel
theorem dX2_fliesOn_12 : decode cX2_fliesOn 12 = .ok (.if_acmp .ne 7, 3) := by decide +kernel
theorem dX2_fliesOn_15 : decode cX2_fliesOn 15 = .ok (.iconst 1, 1) := by decide +kernel
theorem dX2_fliesOn_16 : decode cX2_fliesOn 16 = .ok (.goto 4, 3) := by decide +kernel
theorem dX2_fliesOn_19 : decode cX2_fliesOn 19 = .ok (.iconst 0, 1) := by decide +kernel
theorem dX2_fliesOn_20 : decode cX2_fliesOn 20 = .ok (.ireturn, 1) := by decide +kernel
theorem dX2_wouldGive_0 : decode cX2_wouldGive 0 = .ok (.aload_n 0, 1) := by decide +kernel
theorem dX2_wouldGive_1 : decode cX2_wouldGive 1 = .ok (.aload_n 1, 1) := by decide +kernel
theorem dX2_wouldGive_2 : decode cX2_wouldGive 2 = .ok (.invokevirtual 41, 3) := by decide +kernel
theorem dX2_wouldGive_5 : decode cX2_wouldGive 5 = .ok (.ifCond .eq 22, 3) := by decide +kernel
theorem dX2_wouldGive_8 : decode cX2_wouldGive 8 = .ok (.aload_n 0, 1) := by decide +kernel
theorem dX2_wouldGive_9 : decode cX2_wouldGive 9 = .ok (.getfield 34, 3) := by decide +kernel
theorem dX2_wouldGive_12 : decode cX2_wouldGive 12 = .ok (.iconst (-1), 1) := by decide +kernel
theorem dX2_wouldGive_13 : decode cX2_wouldGive 13 = .ok (.if_icmp .eq 14, 3) := by decide +kernel
theorem dX2_wouldGive_16 : decode cX2_wouldGive 16 = .ok (.aload_n 0, 1) := by decide +kernel
theorem dX2_wouldGive_17 : decode cX2_wouldGive 17 = .ok (.getfield 37, 3) := by decide +kernel
theorem dX2_wouldGive_20 : decode cX2_wouldGive 20 = .ok (.ifCond .ne 7, 3) := by decide +kernel
theorem dX2_wouldGive_23 : decode cX2_wouldGive 23 = .ok (.iconst 1, 1) := by decide +kernel
theorem dX2_wouldGive_24 : decode cX2_wouldGive 24 = .ok (.goto 4, 3) := by decide +kernel
theorem dX2_wouldGive_27 : decode cX2_wouldGive 27 = .ok (.iconst 0, 1) := by decide +kernel
theorem dX2_wouldGive_28 : decode cX2_wouldGive 28 = .ok (.ireturn, 1) := by decide +kernel
theorem dX2_isStranded_0 : decode cX2_isStranded 0 = .ok (.aload_n 0, 1) := by decide +kernel
theorem dX2_isStranded_1 : decode cX2_isStranded 1 = .ok (.getfield 9, 3) := by decide +kernel
theorem dX2_isStranded_4 : decode cX2_isStranded 4 = .ok (.ifCond .eq 14, 3) := by decide +kernel
theorem dX2_isStranded_7 : decode cX2_isStranded 7 = .ok (.aload_n 0, 1) := by decide +kernel
theorem dX2_isStranded_8 : decode cX2_isStranded 8 = .ok (.getfield 18, 3) := by decide +kernel
theorem dX2_isStranded_11 : decode cX2_isStranded 11 = .ok (.ifnonnull 7, 3) := by decide +kernel
theorem dX2_isStranded_14 : decode cX2_isStranded 14 = .ok (.iconst 1, 1) := by decide +kernel
theorem dX2_isStranded_15 : decode cX2_isStranded 15 = .ok (.goto 4, 3) := by decide +kernel
theorem dX2_isStranded_18 : decode cX2_isStranded 18 = .ok (.iconst 0, 1) := by decide +kernel
theorem dX2_isStranded_19 : decode cX2_isStranded 19 = .ok (.ireturn, 1) := by decide +kernel
theorem dX2_giveUp_0 : decode cX2_giveUp 0 = .ok (.aload_n 0, 1) := by decide +kernel
theorem dX2_giveUp_1 : decode cX2_giveUp 1 = .ok (.iload_n 1, 1) := by decide +kernel
theorem dX2_giveUp_2 : decode cX2_giveUp 2 = .ok (.putfield 9, 3) := by decide +kernel
theorem dX2_giveUp_5 : decode cX2_giveUp 5 = .ok (.aload_n 0, 1) := by decide +kernel
theorem dX2_giveUp_6 : decode cX2_giveUp 6 = .ok (.iload_n 2, 1) := by decide +kernel
theorem dX2_giveUp_7 : decode cX2_giveUp 7 = .ok (.putfield 15, 3) := by decide +kernel
theorem dX2_giveUp_10 : decode cX2_giveUp 10 = .ok (.return_, 1) := by decide +kernel
theorem dX2_takeWay_0 : decode cX2_takeWay 0 = .ok (.aload_n 0, 1) := by decide +kernel
theorem dX2_takeWay_1 : decode cX2_takeWay 1 = .ok (.aload_n 1, 1) := by decide +kernel
theorem dX2_takeWay_2 : decode cX2_takeWay 2 = .ok (.putfield 18, 3) := by decide +kernel
theorem dX2_takeWay_5 : decode cX2_takeWay 5 = .ok (.aload_n 0, 1) := by decide +kernel
theorem dX2_takeWay_6 : decode cX2_takeWay 6 = .ok (.aload_n 2, 1) := by decide +kernel
theorem dX2_takeWay_7 : decode cX2_takeWay 7 = .ok (.putfield 22, 3) := by decide +kernel
theorem dX2_takeWay_10 : decode cX2_takeWay 10 = .ok (.return_, 1) := by decide +kernel
theorem dX2_flyAgain_0 : decode cX2_flyAgain 0 = .ok (.aload_n 0, 1) := by decide +kernel
theorem dX2_flyAgain_1 : decode cX2_flyAgain 1 = .ok (.iconst 0, 1) := by decide +kernel
theorem dX2_flyAgain_2 : decode cX2_flyAgain 2 = .ok (.iconst 0, 1) := by decide +kernel
theorem dX2_flyAgain_3 : decode cX2_flyAgain 3 = .ok (.invokevirtual 45, 3) := by decide +kernel
theorem dX2_flyAgain_6 : decode cX2_flyAgain 6 = .ok (.aload_n 0, 1) := by decide +kernel
theorem dX2_flyAgain_7 : decode cX2_flyAgain 7 = .ok (.aconst_null, 1) := by decide +kernel
theorem dX2_flyAgain_8 : decode cX2_flyAgain 8 = .ok (.aconst_null, 1) := by decide +kernel
theorem dX2_flyAgain_9 : decode cX2_flyAgain 9 = .ok (.invokevirtual 49, 3) := by decide +kernel
theorem dX2_flyAgain_12 : decode cX2_flyAgain 12 = .ok (.return_, 1) := by decide +kernel
theorem dX2_lateBy_0 : decode cX2_lateBy 0 = .ok (.aload_n 2, 1) := by decide +kernel
theorem dX2_lateBy_1 : decode cX2_lateBy 1 = .ok (.ifnonnull 10, 3) := by decide +kernel
theorem dX2_lateBy_4 : decode cX2_lateBy 4 = .ok (.aload_n 1, 1) := by decide +kernel
theorem dX2_lateBy_5 : decode cX2_lateBy 5 = .ok (.getfield 53, 3) := by decide +kernel
theorem dX2_lateBy_8 : decode cX2_lateBy 8 = .ok (.goto 7, 3) := by decide +kernel
theorem dX2_lateBy_11 : decode cX2_lateBy 11 = .ok (.aload_n 2, 1) := by decide +kernel
theorem dX2_lateBy_12 : decode cX2_lateBy 12 = .ok (.getfield 53, 3) := by decide +kernel
theorem dX2_lateBy_15 : decode cX2_lateBy 15 = .ok (.istore_n 3, 1) := by decide +kernel
theorem dX2_lateBy_16 : decode cX2_lateBy 16 = .ok (.iconst 0, 1) := by decide +kernel
theorem dX2_lateBy_17 : decode cX2_lateBy 17 = .ok (.iload_n 3, 1) := by decide +kernel
theorem dX2_lateBy_18 : decode cX2_lateBy 18 = .ok (.aload_n 0, 1) := by decide +kernel
theorem dX2_lateBy_19 : decode cX2_lateBy 19 = .ok (.getfield 25, 3) := by decide +kernel
theorem dX2_lateBy_22 : decode cX2_lateBy 22 = .ok (.getfield 53, 3) := by decide +kernel
theorem dX2_lateBy_25 : decode cX2_lateBy 25 = .ok (.isub, 1) := by decide +kernel
theorem dX2_lateBy_26 : decode cX2_lateBy 26 = .ok (.invokestatic 58, 3) := by decide +kernel
theorem dX2_lateBy_29 : decode cX2_lateBy 29 = .ok (.ireturn, 1) := by decide +kernel
theorem dX2_lateByWay_0 : decode cX2_lateByWay 0 = .ok (.aload_n 0, 1) := by decide +kernel
theorem dX2_lateByWay_1 : decode cX2_lateByWay 1 = .ok (.getfield 18, 3) := by decide +kernel
theorem dX2_lateByWay_4 : decode cX2_lateByWay 4 = .ok (.ifnonnull 7, 3) := by decide +kernel
theorem dX2_lateByWay_7 : decode cX2_lateByWay 7 = .ok (.iconst (-1), 1) := by decide +kernel
theorem dX2_lateByWay_8 : decode cX2_lateByWay 8 = .ok (.goto 15, 3) := by decide +kernel
theorem dX2_lateByWay_11 : decode cX2_lateByWay 11 = .ok (.aload_n 0, 1) := by decide +kernel
theorem dX2_lateByWay_12 : decode cX2_lateByWay 12 = .ok (.aload_n 0, 1) := by decide +kernel
theorem dX2_lateByWay_13 : decode cX2_lateByWay 13 = .ok (.getfield 18, 3) := by decide +kernel
theorem dX2_lateByWay_16 : decode cX2_lateByWay 16 = .ok (.aload_n 0, 1) := by decide +kernel
theorem dX2_lateByWay_17 : decode cX2_lateByWay 17 = .ok (.getfield 22, 3) := by decide +kernel
theorem dX2_lateByWay_20 : decode cX2_lateByWay 20 = .ok (.invokevirtual 64, 3) := by decide +kernel
theorem dX2_lateByWay_23 : decode cX2_lateByWay 23 = .ok (.ireturn, 1) := by decide +kernel
end
section
theorem dX3_init_0 : decode cX3_init 0 = .ok (.aload_n 0, 1) := by decide +kernel
theorem dX3_init_1 : decode cX3_init 1 = .ok (.invokespecial 3, 3) := by decide +kernel
theorem dX3_init_4 : decode cX3_init 4 = .ok (.aload_n 0, 1) := by decide +kernel
theorem dX3_init_5 : decode cX3_init 5 = .ok (.bipush 8, 2) := by decide +kernel
theorem dX3_init_7 : decode cX3_init 7 = .ok (.anewarray 9, 3) := by decide +kernel
theorem dX3_init_10 : decode cX3_init 10 = .ok (.putfield 11, 3) := by decide +kernel
theorem dX3_init_13 : decode cX3_init 13 = .ok (.aload_n 0, 1) := by decide +kernel
theorem dX3_init_14 : decode cX3_init 14 = .ok (.bipush 20, 2) := by decide +kernel
theorem dX3_init_16 : decode cX3_init 16 = .ok (.anewarray 15, 3) := by decide +kernel
theorem dX3_init_19 : decode cX3_init 19 = .ok (.putfield 17, 3) := by decide +kernel
theorem dX3_init_22 : decode cX3_init 22 = .ok (.aload_n 0, 1) := by decide +kernel
theorem dX3_init_23 : decode cX3_init 23 = .ok (.iconst 3, 1) := by decide +kernel
theorem dX3_init_24 : decode cX3_init 24 = .ok (.newarray .int, 2) := by decide +kernel
theorem dX3_init_26 : decode cX3_init 26 = .ok (.dup, 1) := by decide +kernel
theorem dX3_init_27 : decode cX3_init 27 = .ok (.iconst 0, 1) := by decide +kernel
theorem dX3_init_28 : decode cX3_init 28 = .ok (.sipush 250, 3) := by decide +kernel
theorem dX3_init_31 : decode cX3_init 31 = .ok (.iastore, 1) := by decide +kernel
theorem dX3_init_32 : decode cX3_init 32 = .ok (.dup, 1) := by decide +kernel
theorem dX3_init_33 : decode cX3_init 33 = .ok (.iconst 1, 1) := by decide +kernel
theorem dX3_init_34 : decode cX3_init 34 = .ok (.sipush 400, 3) := by decide +kernel
theorem dX3_init_37 : decode cX3_init 37 = .ok (.iastore, 1) := by decide +kernel
theorem dX3_init_38 : decode cX3_init 38 = .ok (.dup, 1) := by decide +kernel
theorem dX3_init_39 : decode cX3_init 39 = .ok (.iconst 2, 1) := by decide +kernel
theorem dX3_init_40 : decode cX3_init 40 = .ok (.sipush 600, 3) := by decide +kernel
theorem dX3_init_43 : decode cX3_init 43 = .ok (.iastore, 1) := by decide +kernel
theorem dX3_init_44 : decode cX3_init 44 = .ok (.putfield 21, 3) := by decide +kernel
theorem dX3_init_47 : decode cX3_init 47 = .ok (.aload_n 0, 1) := by decide +kernel
theorem dX3_init_48 : decode cX3_init 48 = .ok (.bipush 121, 2) := by decide +kernel
theorem dX3_init_50 : decode cX3_init 50 = .ok (.newarray .long, 2) := by decide +kernel
theorem dX3_init_52 : decode cX3_init 52 = .ok (.putfield 25, 3) := by decide +kernel
theorem dX3_init_55 : decode cX3_init 55 = .ok (.aload_n 0, 1) := by decide +kernel
theorem dX3_init_56 : decode cX3_init 56 = .ok (.new 29, 3) := by decide +kernel
theorem dX3_init_59 : decode cX3_init 59 = .ok (.dup, 1) := by decide +kernel
theorem dX3_init_60 : decode cX3_init 60 = .ok (.invokespecial 31, 3) := by decide +kernel
theorem dX3_init_63 : decode cX3_init 63 = .ok (.putfield 32, 3) := by decide +kernel
theorem dX3_init_66 : decode cX3_init 66 = .ok (.aload_n 0, 1) := by decide +kernel
theorem dX3_init_67 : decode cX3_init 67 = .ok (.iconst 0, 1) := by decide +kernel
theorem dX3_init_68 : decode cX3_init 68 = .ok (.putfield 36, 3) := by decide +kernel
theorem dX3_init_71 : decode cX3_init 71 = .ok (.aload_n 0, 1) := by decide +kernel
theorem dX3_init_72 : decode cX3_init 72 = .ok (.iconst 0, 1) := by decide +kernel
theorem dX3_init_73 : decode cX3_init 73 = .ok (.putfield 40, 3) := by decide +kernel
theorem dX3_init_76 : decode cX3_init 76 = .ok (.aload_n 0, 1) := by decide +kernel
theorem dX3_init_77 : decode cX3_init 77 = .ok (.bipush 45, 2) := by decide +kernel
theorem dX3_init_79 : decode cX3_init 79 = .ok (.putfield 43, 3) := by decide +kernel
theorem dX3_init_82 : decode cX3_init 82 = .ok (.return_, 1) := by decide +kernel
theorem dX3_flight_0 : decode cX3_flight 0 = .ok (.aload_n 0, 1) := by decide +kernel
theorem dX3_flight_1 : decode cX3_flight 1 = .ok (.getfield 36, 3) := by decide +kernel
theorem dX3_flight_4 : decode cX3_flight 4 = .ok (.bipush 8, 2) := by decide +kernel
theorem dX3_flight_6 : decode cX3_flight 6 = .ok (.if_icmp .lt 5, 3) := by decide +kernel
theorem dX3_flight_9 : decode cX3_flight 9 = .ok (.iconst (-1), 1) := by decide +kernel
theorem dX3_flight_10 : decode cX3_flight 10 = .ok (.ireturn, 1) := by decide +kernel
theorem dX3_flight_11 : decode cX3_flight 11 = .ok (.iload_n 1, 1) := by decide +kernel
theorem dX3_flight_12 : decode cX3_flight 12 = .ok (.iconst 0, 1) := by decide +kernel
theorem dX3_flight_13 : decode cX3_flight 13 = .ok (.bipush 7, 2) := by decide +kernel
theorem dX3_flight_15 : decode cX3_flight 15 = .ok (.invokestatic 46, 3) := by decide +kernel
theorem dX3_flight_18 : decode cX3_flight 18 = .ok (.ifCond .eq 18, 3) := by decide +kernel
theorem dX3_flight_21 : decode cX3_flight 21 = .ok (.iload_n 2, 1) := by decide +kernel
theorem dX3_flight_22 : decode cX3_flight 22 = .ok (.iconst 0, 1) := by decide +kernel
theorem dX3_flight_23 : decode cX3_flight 23 = .ok (.bipush 7, 2) := by decide +kernel
theorem dX3_flight_25 : decode cX3_flight 25 = .ok (.invokestatic 46, 3) := by decide +kernel
theorem dX3_flight_28 : decode cX3_flight 28 = .ok (.ifCond .eq 8, 3) := by decide +kernel
theorem dX3_flight_31 : decode cX3_flight 31 = .ok (.iload_n 1, 1) := by decide +kernel
theorem dX3_flight_32 : decode cX3_flight 32 = .ok (.iload_n 2, 1) := by decide +kernel
theorem dX3_flight_33 : decode cX3_flight 33 = .ok (.if_icmp .ne 5, 3) := by decide +kernel
theorem dX3_flight_36 : decode cX3_flight 36 = .ok (.iconst (-1), 1) := by decide +kernel
theorem dX3_flight_37 : decode cX3_flight 37 = .ok (.ireturn, 1) := by decide +kernel
theorem dX3_flight_38 : decode cX3_flight 38 = .ok (.iload_n 3, 1) := by decide +kernel
theorem dX3_flight_39 : decode cX3_flight 39 = .ok (.ifCond .lt 17, 3) := by decide +kernel
theorem dX3_flight_42 : decode cX3_flight 42 = .ok (.iload_n 3, 1) := by decide +kernel
theorem dX3_flight_43 : decode cX3_flight 43 = .ok (.iload 4, 2) := by decide +kernel
theorem dX3_flight_45 : decode cX3_flight 45 = .ok (.if_icmp .ge 11, 3) := by decide +kernel
theorem dX3_flight_48 : decode cX3_flight 48 = .ok (.iload 4, 2) := by decide +kernel
theorem dX3_flight_50 : decode cX3_flight 50 = .ok (.sipush 9999, 3) := by decide +kernel
theorem dX3_flight_53 : decode cX3_flight 53 = .ok (.if_icmp .le 5, 3) := by decide +kernel
theorem dX3_flight_56 : decode cX3_flight 56 = .ok (.iconst (-1), 1) := by decide +kernel
theorem dX3_flight_57 : decode cX3_flight 57 = .ok (.ireturn, 1) := by decide +kernel
theorem dX3_flight_58 : decode cX3_flight 58 = .ok (.iload 5, 2) := by decide +kernel
theorem dX3_flight_60 : decode cX3_flight 60 = .ok (.iconst 1, 1) := by decide +kernel
theorem dX3_flight_61 : decode cX3_flight 61 = .ok (.bipush 40, 2) := by decide +kernel
theorem dX3_flight_63 : decode cX3_flight 63 = .ok (.invokestatic 46, 3) := by decide +kernel
theorem dX3_flight_66 : decode cX3_flight 66 = .ok (.ifCond .eq 15, 3) := by decide +kernel
theorem dX3_flight_69 : decode cX3_flight 69 = .ok (.iload 6, 2) := by decide +kernel
theorem dX3_flight_71 : decode cX3_flight 71 = .ok (.iconst 1, 1) := by decide +kernel
theorem dX3_flight_72 : decode cX3_flight 72 = .ok (.sipush 9999, 3) := by decide +kernel
theorem dX3_flight_75 : decode cX3_flight 75 = .ok (.invokestatic 46, 3) := by decide +kernel
theorem dX3_flight_78 : decode cX3_flight 78 = .ok (.ifCond .ne 5, 3) := by decide +kernel
theorem dX3_flight_81 : decode cX3_flight 81 = .ok (.iconst (-1), 1) := by decide +kernel
theorem dX3_flight_82 : decode cX3_flight 82 = .ok (.ireturn, 1) := by decide +kernel
theorem dX3_flight_83 : decode cX3_flight 83 = .ok (.aload_n 0, 1) := by decide +kernel
theorem dX3_flight_84 : decode cX3_flight 84 = .ok (.getfield 36, 3) := by decide +kernel
theorem dX3_flight_87 : decode cX3_flight 87 = .ok (.istore 7, 2) := by decide +kernel
theorem dX3_flight_89 : decode cX3_flight 89 = .ok (.aload_n 0, 1) := by decide +kernel
theorem dX3_flight_90 : decode cX3_flight 90 = .ok (.getfield 11, 3) := by decide +kernel
theorem dX3_flight_93 : decode cX3_flight 93 = .ok (.iload 7, 2) := by decide +kernel
theorem dX3_flight_95 : decode cX3_flight 95 = .ok (.new 9, 3) := by decide +kernel
theorem dX3_flight_98 : decode cX3_flight 98 = .ok (.dup, 1) := by decide +kernel
theorem dX3_flight_99 : decode cX3_flight 99 = .ok (.iload 7, 2) := by decide +kernel
theorem dX3_flight_101 : decode cX3_flight 101 = .ok (.iload_n 1, 1) := by decide +kernel
theorem dX3_flight_102 : decode cX3_flight 102 = .ok (.iload_n 2, 1) := by decide +kernel
theorem dX3_flight_103 : decode cX3_flight 103 = .ok (.iload_n 3, 1) := by decide +kernel
theorem dX3_flight_104 : decode cX3_flight 104 = .ok (.iload 4, 2) := by decide +kernel
theorem dX3_flight_106 : decode cX3_flight 106 = .ok (.iload 5, 2) := by decide +kernel
theorem dX3_flight_108 : decode cX3_flight 108 = .ok (.iload 6, 2) := by decide +kernel
theorem dX3_flight_110 : decode cX3_flight 110 = .ok (.invokespecial 50, 3) := by decide +kernel
theorem dX3_flight_113 : decode cX3_flight 113 = .ok (.aastore, 1) := by decide +kernel
theorem dX3_flight_114 : decode cX3_flight 114 = .ok (.aload_n 0, 1) := by decide +kernel
theorem dX3_flight_115 : decode cX3_flight 115 = .ok (.dup, 1) := by decide +kernel
theorem dX3_flight_116 : decode cX3_flight 116 = .ok (.getfield 36, 3) := by decide +kernel
theorem dX3_flight_119 : decode cX3_flight 119 = .ok (.iconst 1, 1) := by decide +kernel
theorem dX3_flight_120 : decode cX3_flight 120 = .ok (.iadd, 1) := by decide +kernel
theorem dX3_flight_121 : decode cX3_flight 121 = .ok (.putfield 36, 3) := by decide +kernel
theorem dX3_flight_124 : decode cX3_flight 124 = .ok (.iload 7, 2) := by decide +kernel
theorem dX3_flight_126 : decode cX3_flight 126 = .ok (.ireturn, 1) := by decide +kernel
theorem dX3_off_0 : decode cX3_off 0 = .ok (.aload_n 0, 1) := by decide +kernel
theorem dX3_off_1 : decode cX3_off 1 = .ok (.iload_n 1, 1) := by decide +kernel
theorem dX3_off_2 : decode cX3_off 2 = .ok (.invokevirtual 53, 3) := by decide +kernel
theorem dX3_off_5 : decode cX3_off 5 = .ok (.astore_n 3, 1) := by decide +kernel
theorem dX3_off_6 : decode cX3_off 6 = .ok (.aload_n 3, 1) := by decide +kernel
theorem dX3_off_7 : decode cX3_off 7 = .ok (.ifnonnull 5, 3) := by decide +kernel
theorem dX3_off_10 : decode cX3_off 10 = .ok (.iconst 0, 1) := by decide +kernel
theorem dX3_off_11 : decode cX3_off 11 = .ok (.ireturn, 1) := by decide +kernel
theorem dX3_off_12 : decode cX3_off 12 = .ok (.aload_n 3, 1) := by decide +kernel
theorem dX3_off_13 : decode cX3_off 13 = .ok (.iload_n 2, 1) := by decide +kernel
theorem dX3_off_14 : decode cX3_off 14 = .ok (.putfield 57, 3) := by decide +kernel
theorem dX3_off_17 : decode cX3_off 17 = .ok (.iconst 1, 1) := by decide +kernel
theorem dX3_off_18 : decode cX3_off 18 = .ok (.ireturn, 1) := by decide +kernel
theorem dX3_party_0 : decode cX3_party 0 = .ok (.aload_n 0, 1) := by decide +kernel
theorem dX3_party_1 : decode cX3_party 1 = .ok (.iload_n 1, 1) := by decide +kernel
theorem dX3_party_2 : decode cX3_party 2 = .ok (.invokevirtual 53, 3) := by decide +kernel
theorem dX3_party_5 : decode cX3_party 5 = .ok (.astore 6, 2) := by decide +kernel
theorem dX3_party_7 : decode cX3_party 7 = .ok (.aload 6, 2) := by decide +kernel
theorem dX3_party_9 : decode cX3_party 9 = .ok (.ifnull 12, 3) := by decide +kernel
theorem dX3_party_12 : decode cX3_party 12 = .ok (.aload_n 0, 1) := by decide +kernel
theorem dX3_party_13 : decode cX3_party 13 = .ok (.getfield 40, 3) := by decide +kernel
theorem dX3_party_16 : decode cX3_party 16 = .ok (.bipush 20, 2) := by decide +kernel
theorem dX3_party_18 : decode cX3_party 18 = .ok (.if_icmp .lt 5, 3) := by decide +kernel
theorem dX3_party_21 : decode cX3_party 21 = .ok (.iconst (-1), 1) := by decide +kernel
theorem dX3_party_22 : decode cX3_party 22 = .ok (.ireturn, 1) := by decide +kernel
theorem dX3_party_23 : decode cX3_party 23 = .ok (.iload_n 2, 1) := by decide +kernel
theorem dX3_party_24 : decode cX3_party 24 = .ok (.iconst 1, 1) := by decide +kernel
theorem dX3_party_25 : decode cX3_party 25 = .ok (.bipush 6, 2) := by decide +kernel
theorem dX3_party_27 : decode cX3_party 27 = .ok (.invokestatic 46, 3) := by decide +kernel
theorem dX3_party_30 : decode cX3_party 30 = .ok (.ifCond .eq 25, 3) := by decide +kernel
theorem dX3_party_33 : decode cX3_party 33 = .ok (.iload_n 3, 1) := by decide +kernel
theorem dX3_party_34 : decode cX3_party 34 = .ok (.iconst 0, 1) := by decide +kernel
theorem dX3_party_35 : decode cX3_party 35 = .ok (.bipush 9, 2) := by decide +kernel
theorem dX3_party_37 : decode cX3_party 37 = .ok (.invokestatic 46, 3) := by decide +kernel
theorem dX3_party_40 : decode cX3_party 40 = .ok (.ifCond .eq 15, 3) := by decide +kernel
theorem dX3_party_43 : decode cX3_party 43 = .ok (.iload 4, 2) := by decide +kernel
theorem dX3_party_45 : decode cX3_party 45 = .ok (.iconst (-1), 1) := by decide +kernel
theorem dX3_party_46 : decode cX3_party 46 = .ok (.sipush 999, 3) := by decide +kernel
theorem dX3_party_49 : decode cX3_party 49 = .ok (.invokestatic 46, 3) := by decide +kernel
theorem dX3_party_52 : decode cX3_party 52 = .ok (.ifCond .ne 5, 3) := by decide +kernel
theorem dX3_party_55 : decode cX3_party 55 = .ok (.iconst (-1), 1) := by decide +kernel
theorem dX3_party_56 : decode cX3_party 56 = .ok (.ireturn, 1) := by decide +kernel
theorem dX3_party_57 : decode cX3_party 57 = .ok (.aload_n 0, 1) := by decide +kernel
theorem dX3_party_58 : decode cX3_party 58 = .ok (.getfield 40, 3) := by decide +kernel
theorem dX3_party_61 : decode cX3_party 61 = .ok (.istore 7, 2) := by decide +kernel
theorem dX3_party_63 : decode cX3_party 63 = .ok (.aload_n 0, 1) := by decide +kernel
theorem dX3_party_64 : decode cX3_party 64 = .ok (.getfield 17, 3) := by decide +kernel
theorem dX3_party_67 : decode cX3_party 67 = .ok (.iload 7, 2) := by decide +kernel
theorem dX3_party_69 : decode cX3_party 69 = .ok (.new 15, 3) := by decide +kernel
theorem dX3_party_72 : decode cX3_party 72 = .ok (.dup, 1) := by decide +kernel
theorem dX3_party_73 : decode cX3_party 73 = .ok (.aload 6, 2) := by decide +kernel
theorem dX3_party_75 : decode cX3_party 75 = .ok (.iload_n 2, 1) := by decide +kernel
theorem dX3_party_76 : decode cX3_party 76 = .ok (.iload_n 3, 1) := by decide +kernel
theorem dX3_party_77 : decode cX3_party 77 = .ok (.iload 4, 2) := by decide +kernel
theorem dX3_party_79 : decode cX3_party 79 = .ok (.iload 5, 2) := by decide +kernel
theorem dX3_party_81 : decode cX3_party 81 = .ok (.invokespecial 61, 3) := by decide +kernel
theorem dX3_party_84 : decode cX3_party 84 = .ok (.aastore, 1) := by decide +kernel
theorem dX3_party_85 : decode cX3_party 85 = .ok (.aload_n 0, 1) := by decide +kernel
theorem dX3_party_86 : decode cX3_party 86 = .ok (.dup, 1) := by decide +kernel
theorem dX3_party_87 : decode cX3_party 87 = .ok (.getfield 40, 3) := by decide +kernel
theorem dX3_party_90 : decode cX3_party 90 = .ok (.iconst 1, 1) := by decide +kernel
theorem dX3_party_91 : decode cX3_party 91 = .ok (.iadd, 1) := by decide +kernel
theorem dX3_party_92 : decode cX3_party 92 = .ok (.putfield 40, 3) := by decide +kernel
theorem dX3_party_95 : decode cX3_party 95 = .ok (.iload 7, 2) := by decide +kernel
theorem dX3_party_97 : decode cX3_party 97 = .ok (.ireturn, 1) := by decide +kernel
theorem dX3_set_0 : decode cX3_set 0 = .ok (.iload_n 1, 1) := by decide +kernel
theorem dX3_set_1 : decode cX3_set 1 = .ok (.ifCond .ne 9, 3) := by decide +kernel
theorem dX3_set_4 : decode cX3_set 4 = .ok (.aload_n 0, 1) := by decide +kernel
theorem dX3_set_5 : decode cX3_set 5 = .ok (.iload_n 2, 1) := by decide +kernel
theorem dX3_set_6 : decode cX3_set 6 = .ok (.invokevirtual 64, 3) := by decide +kernel
theorem dX3_set_9 : decode cX3_set 9 = .ok (.ireturn, 1) := by decide +kernel
theorem dX3_set_10 : decode cX3_set 10 = .ok (.iload_n 1, 1) := by decide +kernel
theorem dX3_set_11 : decode cX3_set 11 = .ok (.iconst 1, 1) := by decide +kernel
theorem dX3_set_12 : decode cX3_set 12 = .ok (.isub, 1) := by decide +kernel
theorem dX3_set_13 : decode cX3_set 13 = .ok (.istore_n 3, 1) := by decide +kernel
theorem dX3_set_14 : decode cX3_set 14 = .ok (.iload_n 3, 1) := by decide +kernel
theorem dX3_set_15 : decode cX3_set 15 = .ok (.ifCond .lt 23, 3) := by decide +kernel
theorem dX3_set_18 : decode cX3_set 18 = .ok (.iload_n 3, 1) := by decide +kernel
theorem dX3_set_19 : decode cX3_set 19 = .ok (.aload_n 0, 1) := by decide +kernel
theorem dX3_set_20 : decode cX3_set 20 = .ok (.getfield 21, 3) := by decide +kernel
theorem dX3_set_23 : decode cX3_set 23 = .ok (.arraylength, 1) := by decide +kernel
theorem dX3_set_24 : decode cX3_set 24 = .ok (.if_icmp .ge 14, 3) := by decide +kernel
theorem dX3_set_27 : decode cX3_set 27 = .ok (.iload_n 2, 1) := by decide +kernel
theorem dX3_set_28 : decode cX3_set 28 = .ok (.iconst 0, 1) := by decide +kernel
theorem dX3_set_29 : decode cX3_set 29 = .ok (.sipush 9999, 3) := by decide +kernel
theorem dX3_set_32 : decode cX3_set 32 = .ok (.invokestatic 46, 3) := by decide +kernel
theorem dX3_set_35 : decode cX3_set 35 = .ok (.ifCond .ne 5, 3) := by decide +kernel
theorem dX3_set_38 : decode cX3_set 38 = .ok (.iconst (-1), 1) := by decide +kernel
theorem dX3_set_39 : decode cX3_set 39 = .ok (.ireturn, 1) := by decide +kernel
theorem dX3_set_40 : decode cX3_set 40 = .ok (.aload_n 0, 1) := by decide +kernel
theorem dX3_set_41 : decode cX3_set 41 = .ok (.getfield 21, 3) := by decide +kernel
theorem dX3_set_44 : decode cX3_set 44 = .ok (.iload_n 3, 1) := by decide +kernel
theorem dX3_set_45 : decode cX3_set 45 = .ok (.iaload, 1) := by decide +kernel
theorem dX3_set_46 : decode cX3_set 46 = .ok (.istore 4, 2) := by decide +kernel
theorem dX3_set_48 : decode cX3_set 48 = .ok (.aload_n 0, 1) := by decide +kernel
theorem dX3_set_49 : decode cX3_set 49 = .ok (.getfield 21, 3) := by decide +kernel
theorem dX3_set_52 : decode cX3_set 52 = .ok (.iload_n 3, 1) := by decide +kernel
theorem dX3_set_53 : decode cX3_set 53 = .ok (.iload_n 2, 1) := by decide +kernel
theorem dX3_set_54 : decode cX3_set 54 = .ok (.iastore, 1) := by decide +kernel
theorem dX3_set_55 : decode cX3_set 55 = .ok (.iload 4, 2) := by decide +kernel
theorem dX3_set_57 : decode cX3_set 57 = .ok (.ireturn, 1) := by decide +kernel
theorem dX3_told_0 : decode cX3_told 0 = .ok (.aload_n 0, 1) := by decide +kernel
theorem dX3_told_1 : decode cX3_told 1 = .ok (.iload_n 1, 1) := by decide +kernel
theorem dX3_told_2 : decode cX3_told 2 = .ok (.invokevirtual 53, 3) := by decide +kernel
theorem dX3_told_5 : decode cX3_told 5 = .ok (.astore_n 3, 1) := by decide +kernel
theorem dX3_told_6 : decode cX3_told 6 = .ok (.aload_n 3, 1) := by decide +kernel
theorem dX3_told_7 : decode cX3_told 7 = .ok (.ifnonnull 5, 3) := by decide +kernel
theorem dX3_told_10 : decode cX3_told 10 = .ok (.iconst (-1), 1) := by decide +kernel
theorem dX3_told_11 : decode cX3_told 11 = .ok (.ireturn, 1) := by decide +kernel
theorem dX3_told_12 : decode cX3_told 12 = .ok (.iload_n 2, 1) := by decide +kernel
theorem dX3_told_13 : decode cX3_told 13 = .ok (.tableswitch 71 0 4 #[35, 41, 47, 52, 65], 35) := by decide +kernel
theorem dX3_told_48 : decode cX3_told 48 = .ok (.aload_n 0, 1) := by decide +kernel
theorem dX3_told_49 : decode cX3_told 49 = .ok (.aload_n 3, 1) := by decide +kernel
theorem dX3_told_50 : decode cX3_told 50 = .ok (.invokevirtual 68, 3) := by decide +kernel
theorem dX3_told_53 : decode cX3_told 53 = .ok (.ireturn, 1) := by decide +kernel
theorem dX3_told_54 : decode cX3_told 54 = .ok (.aload_n 0, 1) := by decide +kernel
theorem dX3_told_55 : decode cX3_told 55 = .ok (.aload_n 3, 1) := by decide +kernel
theorem dX3_told_56 : decode cX3_told 56 = .ok (.invokevirtual 72, 3) := by decide +kernel
theorem dX3_told_59 : decode cX3_told 59 = .ok (.ireturn, 1) := by decide +kernel
theorem dX3_told_60 : decode cX3_told 60 = .ok (.aload_n 3, 1) := by decide +kernel
theorem dX3_told_61 : decode cX3_told 61 = .ok (.getfield 75, 3) := by decide +kernel
theorem dX3_told_64 : decode cX3_told 64 = .ok (.ireturn, 1) := by decide +kernel
theorem dX3_told_65 : decode cX3_told 65 = .ok (.aload_n 3, 1) := by decide +kernel
theorem dX3_told_66 : decode cX3_told 66 = .ok (.getfield 57, 3) := by decide +kernel
theorem dX3_told_69 : decode cX3_told 69 = .ok (.ifCond .eq 7, 3) := by decide +kernel
theorem dX3_told_72 : decode cX3_told 72 = .ok (.iconst 1, 1) := by decide +kernel
theorem dX3_told_73 : decode cX3_told 73 = .ok (.goto 4, 3) := by decide +kernel
theorem dX3_told_76 : decode cX3_told 76 = .ok (.iconst 0, 1) := by decide +kernel
theorem dX3_told_77 : decode cX3_told 77 = .ok (.ireturn, 1) := by decide +kernel
theorem dX3_told_78 : decode cX3_told 78 = .ok (.aload_n 0, 1) := by decide +kernel
theorem dX3_told_79 : decode cX3_told 79 = .ok (.aload_n 3, 1) := by decide +kernel
theorem dX3_told_80 : decode cX3_told 80 = .ok (.invokevirtual 78, 3) := by decide +kernel
theorem dX3_told_83 : decode cX3_told 83 = .ok (.ireturn, 1) := by decide +kernel
theorem dX3_told_84 : decode cX3_told 84 = .ok (.iconst (-1), 1) := by decide +kernel
theorem dX3_told_85 : decode cX3_told 85 = .ok (.ireturn, 1) := by decide +kernel
theorem dX3_of_0 : decode cX3_of 0 = .ok (.aload_n 0, 1) := by decide +kernel
theorem dX3_of_1 : decode cX3_of 1 = .ok (.iload_n 1, 1) := by decide +kernel
theorem dX3_of_2 : decode cX3_of 2 = .ok (.invokevirtual 81, 3) := by decide +kernel
theorem dX3_of_5 : decode cX3_of 5 = .ok (.astore_n 3, 1) := by decide +kernel
theorem dX3_of_6 : decode cX3_of 6 = .ok (.aload_n 3, 1) := by decide +kernel
theorem dX3_of_7 : decode cX3_of 7 = .ok (.ifnonnull 13, 3) := by decide +kernel
theorem dX3_of_10 : decode cX3_of 10 = .ok (.new 85, 3) := by decide +kernel
theorem dX3_of_13 : decode cX3_of 13 = .ok (.dup, 1) := by decide +kernel
theorem dX3_of_14 : decode cX3_of 14 = .ok (.ldc 87, 2) := by decide +kernel
theorem dX3_of_16 : decode cX3_of 16 = .ok (.invokespecial 89, 3) := by decide +kernel
theorem dX3_of_19 : decode cX3_of 19 = .ok (.athrow, 1) := by decide +kernel
theorem dX3_of_20 : decode cX3_of 20 = .ok (.iload_n 2, 1) := by decide +kernel
theorem dX3_of_21 : decode cX3_of 21 = .ok (.tableswitch 97 0 7 #[47, 52, 60, 65, 70, 78, 86, 91], 47) := by decide +kernel
theorem dX3_of_68 : decode cX3_of 68 = .ok (.aload_n 3, 1) := by decide +kernel
theorem dX3_of_69 : decode cX3_of 69 = .ok (.getfield 92, 3) := by decide +kernel
theorem dX3_of_72 : decode cX3_of 72 = .ok (.ireturn, 1) := by decide +kernel
theorem dX3_of_73 : decode cX3_of 73 = .ok (.aload_n 3, 1) := by decide +kernel
theorem dX3_of_74 : decode cX3_of 74 = .ok (.getfield 95, 3) := by decide +kernel
theorem dX3_of_77 : decode cX3_of 77 = .ok (.getfield 99, 3) := by decide +kernel
theorem dX3_of_80 : decode cX3_of 80 = .ok (.ireturn, 1) := by decide +kernel
theorem dX3_of_81 : decode cX3_of 81 = .ok (.aload_n 3, 1) := by decide +kernel
theorem dX3_of_82 : decode cX3_of 82 = .ok (.getfield 102, 3) := by decide +kernel
theorem dX3_of_85 : decode cX3_of 85 = .ok (.ireturn, 1) := by decide +kernel
theorem dX3_of_86 : decode cX3_of 86 = .ok (.aload_n 3, 1) := by decide +kernel
theorem dX3_of_87 : decode cX3_of 87 = .ok (.getfield 105, 3) := by decide +kernel
theorem dX3_of_90 : decode cX3_of 90 = .ok (.ireturn, 1) := by decide +kernel
theorem dX3_of_91 : decode cX3_of 91 = .ok (.aload_n 3, 1) := by decide +kernel
theorem dX3_of_92 : decode cX3_of 92 = .ok (.getfield 108, 3) := by decide +kernel
theorem dX3_of_95 : decode cX3_of 95 = .ok (.invokestatic 111, 3) := by decide +kernel
theorem dX3_of_98 : decode cX3_of 98 = .ok (.ireturn, 1) := by decide +kernel
theorem dX3_of_99 : decode cX3_of 99 = .ok (.aload_n 3, 1) := by decide +kernel
theorem dX3_of_100 : decode cX3_of 100 = .ok (.getfield 114, 3) := by decide +kernel
theorem dX3_of_103 : decode cX3_of 103 = .ok (.invokestatic 111, 3) := by decide +kernel
theorem dX3_of_106 : decode cX3_of 106 = .ok (.ireturn, 1) := by decide +kernel
theorem dX3_of_107 : decode cX3_of 107 = .ok (.aload_n 3, 1) := by decide +kernel
theorem dX3_of_108 : decode cX3_of 108 = .ok (.invokevirtual 117, 3) := by decide +kernel
theorem dX3_of_111 : decode cX3_of 111 = .ok (.ireturn, 1) := by decide +kernel
theorem dX3_of_112 : decode cX3_of 112 = .ok (.aload_n 0, 1) := by decide +kernel
theorem dX3_of_113 : decode cX3_of 113 = .ok (.aload_n 3, 1) := by decide +kernel
theorem dX3_of_114 : decode cX3_of 114 = .ok (.invokevirtual 121, 3) := by decide +kernel
theorem dX3_of_117 : decode cX3_of 117 = .ok (.ireturn, 1) := by decide +kernel
theorem dX3_of_118 : decode cX3_of 118 = .ok (.new 85, 3) := by decide +kernel
theorem dX3_of_121 : decode cX3_of 121 = .ok (.dup, 1) := by decide +kernel
theorem dX3_of_122 : decode cX3_of 122 = .ok (.ldc 125, 2) := by decide +kernel
theorem dX3_of_124 : decode cX3_of 124 = .ok (.invokespecial 89, 3) := by decide +kernel
theorem dX3_of_127 : decode cX3_of 127 = .ok (.athrow, 1) := by decide +kernel
theorem dX3_count_0 : decode cX3_count 0 = .ok (.iload_n 1, 1) := by decide +kernel
theorem dX3_count_1 : decode cX3_count 1 = .ok (.tableswitch 80 0 6 #[43, 48, 53, 58, 64, 70, 75], 43) := by decide +kernel
theorem dX3_count_44 : decode cX3_count 44 = .ok (.aload_n 0, 1) := by decide +kernel
theorem dX3_count_45 : decode cX3_count 45 = .ok (.getfield 36, 3) := by decide +kernel
theorem dX3_count_48 : decode cX3_count 48 = .ok (.ireturn, 1) := by decide +kernel
theorem dX3_count_49 : decode cX3_count 49 = .ok (.aload_n 0, 1) := by decide +kernel
theorem dX3_count_50 : decode cX3_count 50 = .ok (.getfield 40, 3) := by decide +kernel
theorem dX3_count_53 : decode cX3_count 53 = .ok (.ireturn, 1) := by decide +kernel
theorem dX3_count_54 : decode cX3_count 54 = .ok (.aload_n 0, 1) := by decide +kernel
theorem dX3_count_55 : decode cX3_count 55 = .ok (.invokevirtual 127, 3) := by decide +kernel
theorem dX3_count_58 : decode cX3_count 58 = .ok (.ireturn, 1) := by decide +kernel
theorem dX3_count_59 : decode cX3_count 59 = .ok (.aload_n 0, 1) := by decide +kernel
theorem dX3_count_60 : decode cX3_count 60 = .ok (.iconst 1, 1) := by decide +kernel
theorem dX3_count_61 : decode cX3_count 61 = .ok (.invokevirtual 130, 3) := by decide +kernel
theorem dX3_count_64 : decode cX3_count 64 = .ok (.ireturn, 1) := by decide +kernel
theorem dX3_count_65 : decode cX3_count 65 = .ok (.aload_n 0, 1) := by decide +kernel
theorem dX3_count_66 : decode cX3_count 66 = .ok (.iconst 2, 1) := by decide +kernel
theorem dX3_count_67 : decode cX3_count 67 = .ok (.invokevirtual 130, 3) := by decide +kernel
theorem dX3_count_70 : decode cX3_count 70 = .ok (.ireturn, 1) := by decide +kernel
theorem dX3_count_71 : decode cX3_count 71 = .ok (.aload_n 0, 1) := by decide +kernel
theorem dX3_count_72 : decode cX3_count 72 = .ok (.invokevirtual 133, 3) := by decide +kernel
theorem dX3_count_75 : decode cX3_count 75 = .ok (.ireturn, 1) := by decide +kernel
theorem dX3_count_76 : decode cX3_count 76 = .ok (.aload_n 0, 1) := by decide +kernel
theorem dX3_count_77 : decode cX3_count 77 = .ok (.invokevirtual 136, 3) := by decide +kernel
theorem dX3_count_80 : decode cX3_count 80 = .ok (.ireturn, 1) := by decide +kernel
theorem dX3_count_81 : decode cX3_count 81 = .ok (.iconst (-1), 1) := by decide +kernel
theorem dX3_count_82 : decode cX3_count 82 = .ok (.ireturn, 1) := by decide +kernel
theorem dX3_cost_0 : decode cX3_cost 0 = .ok (.aload_n 0, 1) := by decide +kernel
theorem dX3_cost_1 : decode cX3_cost 1 = .ok (.iload_n 1, 1) := by decide +kernel
theorem dX3_cost_2 : decode cX3_cost 2 = .ok (.invokevirtual 53, 3) := by decide +kernel
theorem dX3_cost_5 : decode cX3_cost 5 = .ok (.astore_n 2, 1) := by decide +kernel
theorem dX3_cost_6 : decode cX3_cost 6 = .ok (.aload_n 2, 1) := by decide +kernel
theorem dX3_cost_7 : decode cX3_cost 7 = .ok (.ifnonnull 5, 3) := by decide +kernel
theorem dX3_cost_10 : decode cX3_cost 10 = .ok (.iconst (-1), 1) := by decide +kernel
theorem dX3_cost_11 : decode cX3_cost 11 = .ok (.ireturn, 1) := by decide +kernel
theorem dX3_cost_12 : decode cX3_cost 12 = .ok (.aload_n 0, 1) := by decide +kernel
theorem dX3_cost_13 : decode cX3_cost 13 = .ok (.aload_n 2, 1) := by decide +kernel
theorem dX3_cost_14 : decode cX3_cost 14 = .ok (.aload_n 0, 1) := by decide +kernel
theorem dX3_cost_15 : decode cX3_cost 15 = .ok (.aload_n 2, 1) := by decide +kernel
theorem dX3_cost_16 : decode cX3_cost 16 = .ok (.invokevirtual 72, 3) := by decide +kernel
theorem dX3_cost_19 : decode cX3_cost 19 = .ok (.invokevirtual 139, 3) := by decide +kernel
theorem dX3_cost_22 : decode cX3_cost 22 = .ok (.lstore_n 3, 1) := by decide +kernel
theorem dX3_cost_23 : decode cX3_cost 23 = .ok (.lload_n 3, 1) := by decide +kernel
theorem dX3_cost_24 : decode cX3_cost 24 = .ok (.lconst 0, 1) := by decide +kernel
theorem dX3_cost_25 : decode cX3_cost 25 = .ok (.lcmp, 1) := by decide +kernel
theorem dX3_cost_26 : decode cX3_cost 26 = .ok (.ifCond .ge 8, 3) := by decide +kernel
theorem dX3_cost_29 : decode cX3_cost 29 = .ok (.bipush (-2), 2) := by decide +kernel
theorem dX3_cost_31 : decode cX3_cost 31 = .ok (.goto 7, 3) := by decide +kernel
theorem dX3_cost_34 : decode cX3_cost 34 = .ok (.lload_n 3, 1) := by decide +kernel
theorem dX3_cost_35 : decode cX3_cost 35 = .ok (.invokestatic 143, 3) := by decide +kernel
theorem dX3_cost_38 : decode cX3_cost 38 = .ok (.ireturn, 1) := by decide +kernel
theorem dX3_buy_0 : decode cX3_buy 0 = .ok (.aload_n 0, 1) := by decide +kernel
theorem dX3_buy_1 : decode cX3_buy 1 = .ok (.iload_n 1, 1) := by decide +kernel
theorem dX3_buy_2 : decode cX3_buy 2 = .ok (.invokevirtual 53, 3) := by decide +kernel
theorem dX3_buy_5 : decode cX3_buy 5 = .ok (.astore_n 2, 1) := by decide +kernel
theorem dX3_buy_6 : decode cX3_buy 6 = .ok (.aload_n 2, 1) := by decide +kernel
theorem dX3_buy_7 : decode cX3_buy 7 = .ok (.ifnonnull 5, 3) := by decide +kernel
theorem dX3_buy_10 : decode cX3_buy 10 = .ok (.iconst (-1), 1) := by decide +kernel
theorem dX3_buy_11 : decode cX3_buy 11 = .ok (.ireturn, 1) := by decide +kernel
theorem dX3_buy_12 : decode cX3_buy 12 = .ok (.aload_n 0, 1) := by decide +kernel
theorem dX3_buy_13 : decode cX3_buy 13 = .ok (.aload_n 2, 1) := by decide +kernel
theorem dX3_buy_14 : decode cX3_buy 14 = .ok (.aload_n 0, 1) := by decide +kernel
theorem dX3_buy_15 : decode cX3_buy 15 = .ok (.aload_n 2, 1) := by decide +kernel
theorem dX3_buy_16 : decode cX3_buy 16 = .ok (.invokevirtual 72, 3) := by decide +kernel
theorem dX3_buy_19 : decode cX3_buy 19 = .ok (.invokevirtual 139, 3) := by decide +kernel
theorem dX3_buy_22 : decode cX3_buy 22 = .ok (.lstore_n 3, 1) := by decide +kernel
theorem dX3_buy_23 : decode cX3_buy 23 = .ok (.lload_n 3, 1) := by decide +kernel
theorem dX3_buy_24 : decode cX3_buy 24 = .ok (.lconst 0, 1) := by decide +kernel
theorem dX3_buy_25 : decode cX3_buy 25 = .ok (.lcmp, 1) := by decide +kernel
theorem dX3_buy_26 : decode cX3_buy 26 = .ok (.ifCond .ge 6, 3) := by decide +kernel
theorem dX3_buy_29 : decode cX3_buy 29 = .ok (.bipush (-2), 2) := by decide +kernel
theorem dX3_buy_31 : decode cX3_buy 31 = .ok (.ireturn, 1) := by decide +kernel
theorem dX3_buy_32 : decode cX3_buy 32 = .ok (.iconst 0, 1) := by decide +kernel
theorem dX3_buy_33 : decode cX3_buy 33 = .ok (.istore 5, 2) := by decide +kernel
theorem dX3_buy_35 : decode cX3_buy 35 = .ok (.iload 5, 2) := by decide +kernel
theorem dX3_buy_37 : decode cX3_buy 37 = .ok (.aload_n 0, 1) := by decide +kernel
theorem dX3_buy_38 : decode cX3_buy 38 = .ok (.getfield 40, 3) := by decide +kernel
theorem dX3_buy_41 : decode cX3_buy 41 = .ok (.if_icmp .ge 39, 3) := by decide +kernel
theorem dX3_buy_44 : decode cX3_buy 44 = .ok (.lload_n 3, 1) := by decide +kernel
theorem dX3_buy_45 : decode cX3_buy 45 = .ok (.iload 5, 2) := by decide +kernel
theorem dX3_buy_47 : decode cX3_buy 47 = .ok (.invokestatic 147, 3) := by decide +kernel
theorem dX3_buy_50 : decode cX3_buy 50 = .ok (.ifCond .eq 24, 3) := by decide +kernel
theorem dX3_buy_53 : decode cX3_buy 53 = .ok (.aload_n 0, 1) := by decide +kernel
theorem dX3_buy_54 : decode cX3_buy 54 = .ok (.getfield 17, 3) := by decide +kernel
theorem dX3_buy_57 : decode cX3_buy 57 = .ok (.iload 5, 2) := by decide +kernel
theorem dX3_buy_59 : decode cX3_buy 59 = .ok (.aaload, 1) := by decide +kernel
theorem dX3_buy_60 : decode cX3_buy 60 = .ok (.iconst 1, 1) := by decide +kernel
theorem dX3_buy_61 : decode cX3_buy 61 = .ok (.aload_n 0, 1) := by decide +kernel
theorem dX3_buy_62 : decode cX3_buy 62 = .ok (.getfield 17, 3) := by decide +kernel
theorem dX3_buy_65 : decode cX3_buy 65 = .ok (.iload 5, 2) := by decide +kernel
theorem dX3_buy_67 : decode cX3_buy 67 = .ok (.aaload, 1) := by decide +kernel
theorem dX3_buy_68 : decode cX3_buy 68 = .ok (.getfield 151, 3) := by decide +kernel
theorem dX3_buy_71 : decode cX3_buy 71 = .ok (.invokevirtual 154, 3) := by decide +kernel
theorem dX3_buy_74 : decode cX3_buy 74 = .ok (.iinc 5 1, 3) := by decide +kernel
theorem dX3_buy_77 : decode cX3_buy 77 = .ok (.goto (-42), 3) := by decide +kernel
theorem dX3_buy_80 : decode cX3_buy 80 = .ok (.lload_n 3, 1) := by decide +kernel
theorem dX3_buy_81 : decode cX3_buy 81 = .ok (.invokestatic 143, 3) := by decide +kernel
theorem dX3_buy_84 : decode cX3_buy 84 = .ok (.ireturn, 1) := by decide +kernel
theorem dX3_rounds_0 : decode cX3_rounds 0 = .ok (.aload_n 0, 1) := by decide +kernel
theorem dX3_rounds_1 : decode cX3_rounds 1 = .ok (.iload_n 1, 1) := by decide +kernel
theorem dX3_rounds_2 : decode cX3_rounds 2 = .ok (.invokevirtual 53, 3) := by decide +kernel
theorem dX3_rounds_5 : decode cX3_rounds 5 = .ok (.astore 4, 2) := by decide +kernel
theorem dX3_rounds_7 : decode cX3_rounds 7 = .ok (.aload 4, 2) := by decide +kernel
theorem dX3_rounds_9 : decode cX3_rounds 9 = .ok (.ifnull 25, 3) := by decide +kernel
theorem dX3_rounds_12 : decode cX3_rounds 12 = .ok (.iload_n 2, 1) := by decide +kernel
theorem dX3_rounds_13 : decode cX3_rounds 13 = .ok (.iconst 0, 1) := by decide +kernel
theorem dX3_rounds_14 : decode cX3_rounds 14 = .ok (.sipush 999, 3) := by decide +kernel
theorem dX3_rounds_17 : decode cX3_rounds 17 = .ok (.invokestatic 46, 3) := by decide +kernel
theorem dX3_rounds_20 : decode cX3_rounds 20 = .ok (.ifCond .eq 14, 3) := by decide +kernel
theorem dX3_rounds_23 : decode cX3_rounds 23 = .ok (.iload_n 3, 1) := by decide +kernel
theorem dX3_rounds_24 : decode cX3_rounds 24 = .ok (.iconst 1, 1) := by decide +kernel
theorem dX3_rounds_25 : decode cX3_rounds 25 = .ok (.sipush 999, 3) := by decide +kernel
theorem dX3_rounds_28 : decode cX3_rounds 28 = .ok (.invokestatic 46, 3) := by decide +kernel
theorem dX3_rounds_31 : decode cX3_rounds 31 = .ok (.ifCond .ne 5, 3) := by decide +kernel
theorem dX3_rounds_34 : decode cX3_rounds 34 = .ok (.iconst (-1), 1) := by decide +kernel
theorem dX3_rounds_35 : decode cX3_rounds 35 = .ok (.ireturn, 1) := by decide +kernel
theorem dX3_rounds_36 : decode cX3_rounds 36 = .ok (.aload_n 0, 1) := by decide +kernel
theorem dX3_rounds_37 : decode cX3_rounds 37 = .ok (.aload 4, 2) := by decide +kernel
theorem dX3_rounds_39 : decode cX3_rounds 39 = .ok (.invokevirtual 72, 3) := by decide +kernel
theorem dX3_rounds_42 : decode cX3_rounds 42 = .ok (.istore 5, 2) := by decide +kernel
theorem dX3_rounds_44 : decode cX3_rounds 44 = .ok (.iload 5, 2) := by decide +kernel
theorem dX3_rounds_46 : decode cX3_rounds 46 = .ok (.ifCond .ne 5, 3) := by decide +kernel
theorem dX3_rounds_49 : decode cX3_rounds 49 = .ok (.iload_n 2, 1) := by decide +kernel
theorem dX3_rounds_50 : decode cX3_rounds 50 = .ok (.ireturn, 1) := by decide +kernel
theorem dX3_rounds_51 : decode cX3_rounds 51 = .ok (.aload_n 0, 1) := by decide +kernel
theorem dX3_rounds_52 : decode cX3_rounds 52 = .ok (.aload 4, 2) := by decide +kernel
theorem dX3_rounds_54 : decode cX3_rounds 54 = .ok (.iload 5, 2) := by decide +kernel
theorem dX3_rounds_56 : decode cX3_rounds 56 = .ok (.invokevirtual 158, 3) := by decide +kernel
theorem dX3_rounds_59 : decode cX3_rounds 59 = .ok (.istore 6, 2) := by decide +kernel
theorem dX3_rounds_61 : decode cX3_rounds 61 = .ok (.iload 6, 2) := by decide +kernel
theorem dX3_rounds_63 : decode cX3_rounds 63 = .ok (.ifCond .ne 6, 3) := by decide +kernel
theorem dX3_rounds_66 : decode cX3_rounds 66 = .ok (.bipush (-2), 2) := by decide +kernel
theorem dX3_rounds_68 : decode cX3_rounds 68 = .ok (.ireturn, 1) := by decide +kernel
theorem dX3_rounds_69 : decode cX3_rounds 69 = .ok (.aload_n 0, 1) := by decide +kernel
theorem dX3_rounds_70 : decode cX3_rounds 70 = .ok (.iload 6, 2) := by decide +kernel
theorem dX3_rounds_72 : decode cX3_rounds 72 = .ok (.invokevirtual 162, 3) := by decide +kernel
theorem dX3_rounds_75 : decode cX3_rounds 75 = .ok (.iload_n 2, 1) := by decide +kernel
theorem dX3_rounds_76 : decode cX3_rounds 76 = .ok (.iload_n 3, 1) := by decide +kernel
theorem dX3_rounds_77 : decode cX3_rounds 77 = .ok (.invokestatic 165, 3) := by decide +kernel
theorem dX3_rounds_80 : decode cX3_rounds 80 = .ok (.istore 7, 2) := by decide +kernel
theorem dX3_rounds_82 : decode cX3_rounds 82 = .ok (.iload 7, 2) := by decide +kernel
theorem dX3_rounds_84 : decode cX3_rounds 84 = .ok (.sipush 999, 3) := by decide +kernel
theorem dX3_rounds_87 : decode cX3_rounds 87 = .ok (.if_icmp .le 6, 3) := by decide +kernel
theorem dX3_rounds_90 : decode cX3_rounds 90 = .ok (.bipush (-2), 2) := by decide +kernel
theorem dX3_rounds_92 : decode cX3_rounds 92 = .ok (.ireturn, 1) := by decide +kernel
theorem dX3_rounds_93 : decode cX3_rounds 93 = .ok (.iconst 0, 1) := by decide +kernel
theorem dX3_rounds_94 : decode cX3_rounds 94 = .ok (.istore 8, 2) := by decide +kernel
theorem dX3_rounds_96 : decode cX3_rounds 96 = .ok (.iload 8, 2) := by decide +kernel
theorem dX3_rounds_98 : decode cX3_rounds 98 = .ok (.aload_n 0, 1) := by decide +kernel
theorem dX3_rounds_99 : decode cX3_rounds 99 = .ok (.getfield 40, 3) := by decide +kernel
theorem dX3_rounds_102 : decode cX3_rounds 102 = .ok (.if_icmp .ge 33, 3) := by decide +kernel
theorem dX3_rounds_105 : decode cX3_rounds 105 = .ok (.iload 6, 2) := by decide +kernel
theorem dX3_rounds_107 : decode cX3_rounds 107 = .ok (.i2l, 1) := by decide +kernel
theorem dX3_rounds_108 : decode cX3_rounds 108 = .ok (.iload 8, 2) := by decide +kernel
theorem dX3_rounds_110 : decode cX3_rounds 110 = .ok (.invokestatic 147, 3) := by decide +kernel
theorem dX3_rounds_113 : decode cX3_rounds 113 = .ok (.ifCond .eq 16, 3) := by decide +kernel
theorem dX3_rounds_116 : decode cX3_rounds 116 = .ok (.aload_n 0, 1) := by decide +kernel
theorem dX3_rounds_117 : decode cX3_rounds 117 = .ok (.getfield 17, 3) := by decide +kernel
theorem dX3_rounds_120 : decode cX3_rounds 120 = .ok (.iload 8, 2) := by decide +kernel
theorem dX3_rounds_122 : decode cX3_rounds 122 = .ok (.aaload, 1) := by decide +kernel
theorem dX3_rounds_123 : decode cX3_rounds 123 = .ok (.iconst 1, 1) := by decide +kernel
theorem dX3_rounds_124 : decode cX3_rounds 124 = .ok (.iload 7, 2) := by decide +kernel
theorem dX3_rounds_126 : decode cX3_rounds 126 = .ok (.invokevirtual 154, 3) := by decide +kernel
theorem dX3_rounds_129 : decode cX3_rounds 129 = .ok (.iinc 8 1, 3) := by decide +kernel
theorem dX3_rounds_132 : decode cX3_rounds 132 = .ok (.goto (-36), 3) := by decide +kernel
theorem dX3_rounds_135 : decode cX3_rounds 135 = .ok (.iload 7, 2) := by decide +kernel
theorem dX3_rounds_137 : decode cX3_rounds 137 = .ok (.ireturn, 1) := by decide +kernel
theorem dX3_leave_0 : decode cX3_leave 0 = .ok (.aload_n 0, 1) := by decide +kernel
theorem dX3_leave_1 : decode cX3_leave 1 = .ok (.iload_n 1, 1) := by decide +kernel
theorem dX3_leave_2 : decode cX3_leave 2 = .ok (.invokevirtual 53, 3) := by decide +kernel
theorem dX3_leave_5 : decode cX3_leave 5 = .ok (.astore_n 2, 1) := by decide +kernel
theorem dX3_leave_6 : decode cX3_leave 6 = .ok (.aload_n 2, 1) := by decide +kernel
theorem dX3_leave_7 : decode cX3_leave 7 = .ok (.ifnonnull 5, 3) := by decide +kernel
theorem dX3_leave_10 : decode cX3_leave 10 = .ok (.iconst (-1), 1) := by decide +kernel
theorem dX3_leave_11 : decode cX3_leave 11 = .ok (.ireturn, 1) := by decide +kernel
theorem dX3_leave_12 : decode cX3_leave 12 = .ok (.aload_n 0, 1) := by decide +kernel
theorem dX3_leave_13 : decode cX3_leave 13 = .ok (.aload_n 2, 1) := by decide +kernel
theorem dX3_leave_14 : decode cX3_leave 14 = .ok (.invokevirtual 72, 3) := by decide +kernel
theorem dX3_leave_17 : decode cX3_leave 17 = .ok (.istore_n 3, 1) := by decide +kernel
theorem dX3_leave_18 : decode cX3_leave 18 = .ok (.aload_n 0, 1) := by decide +kernel
theorem dX3_leave_19 : decode cX3_leave 19 = .ok (.aload_n 2, 1) := by decide +kernel
theorem dX3_leave_20 : decode cX3_leave 20 = .ok (.invokevirtual 169, 3) := by decide +kernel
theorem dX3_leave_23 : decode cX3_leave 23 = .ok (.iload_n 3, 1) := by decide +kernel
theorem dX3_leave_24 : decode cX3_leave 24 = .ok (.if_icmp .ge 6, 3) := by decide +kernel
theorem dX3_leave_27 : decode cX3_leave 27 = .ok (.bipush (-2), 2) := by decide +kernel
theorem dX3_leave_29 : decode cX3_leave 29 = .ok (.ireturn, 1) := by decide +kernel
theorem dX3_leave_30 : decode cX3_leave 30 = .ok (.iconst 0, 1) := by decide +kernel
theorem dX3_leave_31 : decode cX3_leave 31 = .ok (.istore 4, 2) := by decide +kernel
theorem dX3_leave_33 : decode cX3_leave 33 = .ok (.iconst 0, 1) := by decide +kernel
theorem dX3_leave_34 : decode cX3_leave 34 = .ok (.istore 5, 2) := by decide +kernel
theorem dX3_leave_36 : decode cX3_leave 36 = .ok (.iload 5, 2) := by decide +kernel
theorem dX3_leave_38 : decode cX3_leave 38 = .ok (.aload_n 0, 1) := by decide +kernel
theorem dX3_leave_39 : decode cX3_leave 39 = .ok (.getfield 40, 3) := by decide +kernel
theorem dX3_leave_42 : decode cX3_leave 42 = .ok (.if_icmp .ge 47, 3) := by decide +kernel
theorem dX3_leave_45 : decode cX3_leave 45 = .ok (.iload 4, 2) := by decide +kernel
theorem dX3_leave_47 : decode cX3_leave 47 = .ok (.iload_n 3, 1) := by decide +kernel
theorem dX3_leave_48 : decode cX3_leave 48 = .ok (.if_icmp .ge 41, 3) := by decide +kernel
theorem dX3_leave_51 : decode cX3_leave 51 = .ok (.aload_n 0, 1) := by decide +kernel
theorem dX3_leave_52 : decode cX3_leave 52 = .ok (.aload_n 2, 1) := by decide +kernel
theorem dX3_leave_53 : decode cX3_leave 53 = .ok (.invokevirtual 172, 3) := by decide +kernel
theorem dX3_leave_56 : decode cX3_leave 56 = .ok (.astore 6, 2) := by decide +kernel
theorem dX3_leave_58 : decode cX3_leave 58 = .ok (.aload 6, 2) := by decide +kernel
theorem dX3_leave_60 : decode cX3_leave 60 = .ok (.ifnonnull 6, 3) := by decide +kernel
theorem dX3_leave_63 : decode cX3_leave 63 = .ok (.goto 26, 3) := by decide +kernel
theorem dX3_leave_66 : decode cX3_leave 66 = .ok (.aload 6, 2) := by decide +kernel
theorem dX3_leave_68 : decode cX3_leave 68 = .ok (.iconst 2, 1) := by decide +kernel
theorem dX3_leave_69 : decode cX3_leave 69 = .ok (.iconst 0, 1) := by decide +kernel
theorem dX3_leave_70 : decode cX3_leave 70 = .ok (.invokevirtual 154, 3) := by decide +kernel
theorem dX3_leave_73 : decode cX3_leave 73 = .ok (.iload 4, 2) := by decide +kernel
theorem dX3_leave_75 : decode cX3_leave 75 = .ok (.aload 6, 2) := by decide +kernel
theorem dX3_leave_77 : decode cX3_leave 77 = .ok (.getfield 102, 3) := by decide +kernel
theorem dX3_leave_80 : decode cX3_leave 80 = .ok (.iadd, 1) := by decide +kernel
theorem dX3_leave_81 : decode cX3_leave 81 = .ok (.istore 4, 2) := by decide +kernel
theorem dX3_leave_83 : decode cX3_leave 83 = .ok (.iinc 5 1, 3) := by decide +kernel
theorem dX3_leave_86 : decode cX3_leave 86 = .ok (.goto (-50), 3) := by decide +kernel
theorem dX3_leave_89 : decode cX3_leave 89 = .ok (.iload 4, 2) := by decide +kernel
theorem dX3_leave_91 : decode cX3_leave 91 = .ok (.ireturn, 1) := by decide +kernel
theorem dX3_back_0 : decode cX3_back 0 = .ok (.aload_n 0, 1) := by decide +kernel
theorem dX3_back_1 : decode cX3_back 1 = .ok (.iload_n 1, 1) := by decide +kernel
theorem dX3_back_2 : decode cX3_back 2 = .ok (.invokevirtual 81, 3) := by decide +kernel
theorem dX3_back_5 : decode cX3_back 5 = .ok (.astore_n 2, 1) := by decide +kernel
theorem dX3_back_6 : decode cX3_back 6 = .ok (.aload_n 2, 1) := by decide +kernel
theorem dX3_back_7 : decode cX3_back 7 = .ok (.ifnull 10, 3) := by decide +kernel
theorem dX3_back_10 : decode cX3_back 10 = .ok (.aload_n 2, 1) := by decide +kernel
theorem dX3_back_11 : decode cX3_back 11 = .ok (.getfield 92, 3) := by decide +kernel
theorem dX3_back_14 : decode cX3_back 14 = .ok (.ifCond .ne 5, 3) := by decide +kernel
theorem dX3_back_17 : decode cX3_back 17 = .ok (.iconst 0, 1) := by decide +kernel
theorem dX3_back_18 : decode cX3_back 18 = .ok (.ireturn, 1) := by decide +kernel
theorem dX3_back_19 : decode cX3_back 19 = .ok (.aload_n 2, 1) := by decide +kernel
theorem dX3_back_20 : decode cX3_back 20 = .ok (.getfield 95, 3) := by decide +kernel
theorem dX3_back_23 : decode cX3_back 23 = .ok (.getfield 57, 3) := by decide +kernel
theorem dX3_back_26 : decode cX3_back 26 = .ok (.ifCond .ne 26, 3) := by decide +kernel
theorem dX3_back_29 : decode cX3_back 29 = .ok (.aload_n 0, 1) := by decide +kernel
theorem dX3_back_30 : decode cX3_back 30 = .ok (.aload_n 2, 1) := by decide +kernel
theorem dX3_back_31 : decode cX3_back 31 = .ok (.getfield 95, 3) := by decide +kernel
theorem dX3_back_34 : decode cX3_back 34 = .ok (.invokevirtual 68, 3) := by decide +kernel
theorem dX3_back_37 : decode cX3_back 37 = .ok (.aload_n 2, 1) := by decide +kernel
theorem dX3_back_38 : decode cX3_back 38 = .ok (.getfield 102, 3) := by decide +kernel
theorem dX3_back_41 : decode cX3_back 41 = .ok (.iadd, 1) := by decide +kernel
theorem dX3_back_42 : decode cX3_back 42 = .ok (.aload_n 2, 1) := by decide +kernel
theorem dX3_back_43 : decode cX3_back 43 = .ok (.getfield 95, 3) := by decide +kernel
theorem dX3_back_46 : decode cX3_back 46 = .ok (.getfield 75, 3) := by decide +kernel
theorem dX3_back_49 : decode cX3_back 49 = .ok (.if_icmp .le 5, 3) := by decide +kernel
theorem dX3_back_52 : decode cX3_back 52 = .ok (.iconst 0, 1) := by decide +kernel
theorem dX3_back_53 : decode cX3_back 53 = .ok (.ireturn, 1) := by decide +kernel
theorem dX3_back_54 : decode cX3_back 54 = .ok (.aload_n 2, 1) := by decide +kernel
theorem dX3_back_55 : decode cX3_back 55 = .ok (.invokevirtual 176, 3) := by decide +kernel
theorem dX3_back_58 : decode cX3_back 58 = .ok (.iconst 1, 1) := by decide +kernel
theorem dX3_back_59 : decode cX3_back 59 = .ok (.ireturn, 1) := by decide +kernel
theorem dX3_late_0 : decode cX3_late 0 = .ok (.aload_n 0, 1) := by decide +kernel
theorem dX3_late_1 : decode cX3_late 1 = .ok (.iload_n 1, 1) := by decide +kernel
theorem dX3_late_2 : decode cX3_late 2 = .ok (.invokevirtual 81, 3) := by decide +kernel
theorem dX3_late_5 : decode cX3_late 5 = .ok (.astore 4, 2) := by decide +kernel
theorem dX3_late_7 : decode cX3_late 7 = .ok (.aload_n 0, 1) := by decide +kernel
theorem dX3_late_8 : decode cX3_late 8 = .ok (.iload_n 2, 1) := by decide +kernel
theorem dX3_late_9 : decode cX3_late 9 = .ok (.invokevirtual 53, 3) := by decide +kernel
theorem dX3_late_12 : decode cX3_late 12 = .ok (.astore 5, 2) := by decide +kernel
theorem dX3_late_14 : decode cX3_late 14 = .ok (.aload_n 0, 1) := by decide +kernel
theorem dX3_late_15 : decode cX3_late 15 = .ok (.iload_n 3, 1) := by decide +kernel
theorem dX3_late_16 : decode cX3_late 16 = .ok (.invokevirtual 53, 3) := by decide +kernel
theorem dX3_late_19 : decode cX3_late 19 = .ok (.astore 6, 2) := by decide +kernel
theorem dX3_late_21 : decode cX3_late 21 = .ok (.aload 4, 2) := by decide +kernel
theorem dX3_late_23 : decode cX3_late 23 = .ok (.ifnull 18, 3) := by decide +kernel
theorem dX3_late_26 : decode cX3_late 26 = .ok (.aload 5, 2) := by decide +kernel
theorem dX3_late_28 : decode cX3_late 28 = .ok (.ifnull 13, 3) := by decide +kernel
theorem dX3_late_31 : decode cX3_late 31 = .ok (.aload 6, 2) := by decide +kernel
theorem dX3_late_33 : decode cX3_late 33 = .ok (.ifnonnull 10, 3) := by decide +kernel
theorem dX3_late_36 : decode cX3_late 36 = .ok (.iload_n 3, 1) := by decide +kernel
theorem dX3_late_37 : decode cX3_late 37 = .ok (.iconst (-1), 1) := by decide +kernel
theorem dX3_late_38 : decode cX3_late 38 = .ok (.if_icmp .eq 5, 3) := by decide +kernel
theorem dX3_late_41 : decode cX3_late 41 = .ok (.iconst (-1), 1) := by decide +kernel
theorem dX3_late_42 : decode cX3_late 42 = .ok (.ireturn, 1) := by decide +kernel
theorem dX3_late_43 : decode cX3_late 43 = .ok (.aload_n 0, 1) := by decide +kernel
theorem dX3_late_44 : decode cX3_late 44 = .ok (.aload 4, 2) := by decide +kernel
theorem dX3_late_46 : decode cX3_late 46 = .ok (.aload 5, 2) := by decide +kernel
theorem dX3_late_48 : decode cX3_late 48 = .ok (.aload 6, 2) := by decide +kernel
theorem dX3_late_50 : decode cX3_late 50 = .ok (.invokevirtual 179, 3) := by decide +kernel
theorem dX3_late_53 : decode cX3_late 53 = .ok (.ifCond .eq 15, 3) := by decide +kernel
theorem dX3_late_56 : decode cX3_late 56 = .ok (.aload 4, 2) := by decide +kernel
theorem dX3_late_58 : decode cX3_late 58 = .ok (.aload 5, 2) := by decide +kernel
theorem dX3_late_60 : decode cX3_late 60 = .ok (.aload 6, 2) := by decide +kernel
theorem dX3_late_62 : decode cX3_late 62 = .ok (.invokevirtual 183, 3) := by decide +kernel
theorem dX3_late_65 : decode cX3_late 65 = .ok (.goto 4, 3) := by decide +kernel
theorem dX3_late_68 : decode cX3_late 68 = .ok (.iconst (-1), 1) := by decide +kernel
theorem dX3_late_69 : decode cX3_late 69 = .ok (.ireturn, 1) := by decide +kernel
theorem dX3_stranded_0 : decode cX3_stranded 0 = .ok (.iconst 0, 1) := by decide +kernel
theorem dX3_stranded_1 : decode cX3_stranded 1 = .ok (.istore_n 1, 1) := by decide +kernel
theorem dX3_stranded_2 : decode cX3_stranded 2 = .ok (.iconst 0, 1) := by decide +kernel
theorem dX3_stranded_3 : decode cX3_stranded 3 = .ok (.istore_n 2, 1) := by decide +kernel
theorem dX3_stranded_4 : decode cX3_stranded 4 = .ok (.iload_n 2, 1) := by decide +kernel
theorem dX3_stranded_5 : decode cX3_stranded 5 = .ok (.aload_n 0, 1) := by decide +kernel
theorem dX3_stranded_6 : decode cX3_stranded 6 = .ok (.getfield 40, 3) := by decide +kernel
theorem dX3_stranded_9 : decode cX3_stranded 9 = .ok (.if_icmp .ge 24, 3) := by decide +kernel
theorem dX3_stranded_12 : decode cX3_stranded 12 = .ok (.aload_n 0, 1) := by decide +kernel
theorem dX3_stranded_13 : decode cX3_stranded 13 = .ok (.getfield 17, 3) := by decide +kernel
theorem dX3_stranded_16 : decode cX3_stranded 16 = .ok (.iload_n 2, 1) := by decide +kernel
theorem dX3_stranded_17 : decode cX3_stranded 17 = .ok (.aaload, 1) := by decide +kernel
theorem dX3_stranded_18 : decode cX3_stranded 18 = .ok (.invokevirtual 187, 3) := by decide +kernel
theorem dX3_stranded_21 : decode cX3_stranded 21 = .ok (.ifCond .eq 6, 3) := by decide +kernel
theorem dX3_stranded_24 : decode cX3_stranded 24 = .ok (.iinc 1 1, 3) := by decide +kernel
theorem dX3_stranded_27 : decode cX3_stranded 27 = .ok (.iinc 2 1, 3) := by decide +kernel
theorem dX3_stranded_30 : decode cX3_stranded 30 = .ok (.goto (-26), 3) := by decide +kernel
theorem dX3_stranded_33 : decode cX3_stranded 33 = .ok (.iload_n 1, 1) := by decide +kernel
theorem dX3_stranded_34 : decode cX3_stranded 34 = .ok (.ireturn, 1) := by decide +kernel
theorem dX3_move_0 : decode cX3_move 0 = .ok (.aload_n 0, 1) := by decide +kernel
theorem dX3_move_1 : decode cX3_move 1 = .ok (.invokevirtual 191, 3) := by decide +kernel
theorem dX3_move_4 : decode cX3_move 4 = .ok (.bipush 6, 2) := by decide +kernel
theorem dX3_move_6 : decode cX3_move 6 = .ok (.if_icmp .le 5, 3) := by decide +kernel
theorem dX3_move_9 : decode cX3_move 9 = .ok (.iconst (-1), 1) := by decide +kernel
theorem dX3_move_10 : decode cX3_move 10 = .ok (.ireturn, 1) := by decide +kernel
theorem dX3_move_11 : decode cX3_move 11 = .ok (.iconst 0, 1) := by decide +kernel
theorem dX3_move_12 : decode cX3_move 12 = .ok (.istore_n 1, 1) := by decide +kernel
theorem dX3_move_13 : decode cX3_move 13 = .ok (.iload_n 1, 1) := by decide +kernel
theorem dX3_move_14 : decode cX3_move 14 = .ok (.aload_n 0, 1) := by decide +kernel
theorem dX3_move_15 : decode cX3_move 15 = .ok (.getfield 36, 3) := by decide +kernel
theorem dX3_move_18 : decode cX3_move 18 = .ok (.if_icmp .ge 38, 3) := by decide +kernel
theorem dX3_move_21 : decode cX3_move 21 = .ok (.aload_n 0, 1) := by decide +kernel
theorem dX3_move_22 : decode cX3_move 22 = .ok (.getfield 11, 3) := by decide +kernel
theorem dX3_move_25 : decode cX3_move 25 = .ok (.iload_n 1, 1) := by decide +kernel
theorem dX3_move_26 : decode cX3_move 26 = .ok (.aaload, 1) := by decide +kernel
theorem dX3_move_27 : decode cX3_move 27 = .ok (.aload_n 0, 1) := by decide +kernel
theorem dX3_move_28 : decode cX3_move 28 = .ok (.getfield 11, 3) := by decide +kernel
theorem dX3_move_31 : decode cX3_move 31 = .ok (.iload_n 1, 1) := by decide +kernel
theorem dX3_move_32 : decode cX3_move 32 = .ok (.aaload, 1) := by decide +kernel
theorem dX3_move_33 : decode cX3_move 33 = .ok (.getfield 75, 3) := by decide +kernel
theorem dX3_move_36 : decode cX3_move 36 = .ok (.aload_n 0, 1) := by decide +kernel
theorem dX3_move_37 : decode cX3_move 37 = .ok (.aload_n 0, 1) := by decide +kernel
theorem dX3_move_38 : decode cX3_move 38 = .ok (.getfield 11, 3) := by decide +kernel
theorem dX3_move_41 : decode cX3_move 41 = .ok (.iload_n 1, 1) := by decide +kernel
theorem dX3_move_42 : decode cX3_move 42 = .ok (.aaload, 1) := by decide +kernel
theorem dX3_move_43 : decode cX3_move 43 = .ok (.invokevirtual 68, 3) := by decide +kernel
theorem dX3_move_46 : decode cX3_move 46 = .ok (.isub, 1) := by decide +kernel
theorem dX3_move_47 : decode cX3_move 47 = .ok (.putfield 194, 3) := by decide +kernel
theorem dX3_move_50 : decode cX3_move 50 = .ok (.iinc 1 1, 3) := by decide +kernel
theorem dX3_move_53 : decode cX3_move 53 = .ok (.goto (-40), 3) := by decide +kernel
theorem dX3_move_56 : decode cX3_move 56 = .ok (.aload_n 0, 1) := by decide +kernel
theorem dX3_move_57 : decode cX3_move 57 = .ok (.getfield 32, 3) := by decide +kernel
theorem dX3_move_60 : decode cX3_move 60 = .ok (.invokevirtual 197, 3) := by decide +kernel
theorem dX3_move_63 : decode cX3_move 63 = .ok (.bipush 6, 2) := by decide +kernel
theorem dX3_move_65 : decode cX3_move 65 = .ok (.istore_n 1, 1) := by decide +kernel
theorem dX3_move_66 : decode cX3_move 66 = .ok (.iload_n 1, 1) := by decide +kernel
theorem dX3_move_67 : decode cX3_move 67 = .ok (.iconst 1, 1) := by decide +kernel
theorem dX3_move_68 : decode cX3_move 68 = .ok (.if_icmp .lt 14, 3) := by decide +kernel
theorem dX3_move_71 : decode cX3_move 71 = .ok (.aload_n 0, 1) := by decide +kernel
theorem dX3_move_72 : decode cX3_move 72 = .ok (.iload_n 1, 1) := by decide +kernel
theorem dX3_move_73 : decode cX3_move 73 = .ok (.invokevirtual 200, 3) := by decide +kernel
theorem dX3_move_76 : decode cX3_move 76 = .ok (.iinc 1 (-1), 3) := by decide +kernel
theorem dX3_move_79 : decode cX3_move 79 = .ok (.goto (-13), 3) := by decide +kernel
theorem dX3_move_82 : decode cX3_move 82 = .ok (.aload_n 0, 1) := by decide +kernel
theorem dX3_move_83 : decode cX3_move 83 = .ok (.getfield 32, 3) := by decide +kernel
theorem dX3_move_86 : decode cX3_move 86 = .ok (.invokevirtual 204, 3) := by decide +kernel
theorem dX3_move_89 : decode cX3_move 89 = .ok (.aload_n 0, 1) := by decide +kernel
theorem dX3_move_90 : decode cX3_move 90 = .ok (.getfield 32, 3) := by decide +kernel
theorem dX3_move_93 : decode cX3_move 93 = .ok (.invokevirtual 207, 3) := by decide +kernel
theorem dX3_move_96 : decode cX3_move 96 = .ok (.ireturn, 1) := by decide +kernel
theorem dX3_undo_0 : decode cX3_undo 0 = .ok (.iconst 0, 1) := by decide +kernel
theorem dX3_undo_1 : decode cX3_undo 1 = .ok (.istore_n 1, 1) := by decide +kernel
theorem dX3_undo_2 : decode cX3_undo 2 = .ok (.iconst 0, 1) := by decide +kernel
theorem dX3_undo_3 : decode cX3_undo 3 = .ok (.istore_n 2, 1) := by decide +kernel
theorem dX3_undo_4 : decode cX3_undo 4 = .ok (.iload_n 2, 1) := by decide +kernel
theorem dX3_undo_5 : decode cX3_undo 5 = .ok (.aload_n 0, 1) := by decide +kernel
theorem dX3_undo_6 : decode cX3_undo 6 = .ok (.getfield 40, 3) := by decide +kernel
theorem dX3_undo_9 : decode cX3_undo 9 = .ok (.if_icmp .ge 45, 3) := by decide +kernel
theorem dX3_undo_12 : decode cX3_undo 12 = .ok (.aload_n 0, 1) := by decide +kernel
theorem dX3_undo_13 : decode cX3_undo 13 = .ok (.getfield 17, 3) := by decide +kernel
theorem dX3_undo_16 : decode cX3_undo 16 = .ok (.iload_n 2, 1) := by decide +kernel
theorem dX3_undo_17 : decode cX3_undo 17 = .ok (.aaload, 1) := by decide +kernel
theorem dX3_undo_18 : decode cX3_undo 18 = .ok (.astore_n 3, 1) := by decide +kernel
theorem dX3_undo_19 : decode cX3_undo 19 = .ok (.aload_n 3, 1) := by decide +kernel
theorem dX3_undo_20 : decode cX3_undo 20 = .ok (.getfield 108, 3) := by decide +kernel
theorem dX3_undo_23 : decode cX3_undo 23 = .ok (.invokestatic 210, 3) := by decide +kernel
theorem dX3_undo_26 : decode cX3_undo 26 = .ok (.ifCond .ne 13, 3) := by decide +kernel
theorem dX3_undo_29 : decode cX3_undo 29 = .ok (.aload_n 3, 1) := by decide +kernel
theorem dX3_undo_30 : decode cX3_undo 30 = .ok (.getfield 114, 3) := by decide +kernel
theorem dX3_undo_33 : decode cX3_undo 33 = .ok (.invokestatic 210, 3) := by decide +kernel
theorem dX3_undo_36 : decode cX3_undo 36 = .ok (.ifCond .eq 12, 3) := by decide +kernel
theorem dX3_undo_39 : decode cX3_undo 39 = .ok (.aload_n 3, 1) := by decide +kernel
theorem dX3_undo_40 : decode cX3_undo 40 = .ok (.aconst_null, 1) := by decide +kernel
theorem dX3_undo_41 : decode cX3_undo 41 = .ok (.aconst_null, 1) := by decide +kernel
theorem dX3_undo_42 : decode cX3_undo 42 = .ok (.invokevirtual 214, 3) := by decide +kernel
theorem dX3_undo_45 : decode cX3_undo 45 = .ok (.iinc 1 1, 3) := by decide +kernel
theorem dX3_undo_48 : decode cX3_undo 48 = .ok (.iinc 2 1, 3) := by decide +kernel
theorem dX3_undo_51 : decode cX3_undo 51 = .ok (.goto (-47), 3) := by decide +kernel
theorem dX3_undo_54 : decode cX3_undo 54 = .ok (.iload_n 1, 1) := by decide +kernel
theorem dX3_undo_55 : decode cX3_undo 55 = .ok (.ireturn, 1) := by decide +kernel
theorem dX3_within_0 : decode cX3_within 0 = .ok (.iload_n 0, 1) := by decide +kernel
theorem dX3_within_1 : decode cX3_within 1 = .ok (.iload_n 1, 1) := by decide +kernel
theorem dX3_within_2 : decode cX3_within 2 = .ok (.if_icmp .lt 12, 3) := by decide +kernel
theorem dX3_within_5 : decode cX3_within 5 = .ok (.iload_n 0, 1) := by decide +kernel
theorem dX3_within_6 : decode cX3_within 6 = .ok (.iload_n 2, 1) := by decide +kernel
theorem dX3_within_7 : decode cX3_within 7 = .ok (.if_icmp .gt 7, 3) := by decide +kernel
theorem dX3_within_10 : decode cX3_within 10 = .ok (.iconst 1, 1) := by decide +kernel
theorem dX3_within_11 : decode cX3_within 11 = .ok (.goto 4, 3) := by decide +kernel
theorem dX3_within_14 : decode cX3_within 14 = .ok (.iconst 0, 1) := by decide +kernel
theorem dX3_within_15 : decode cX3_within 15 = .ok (.ireturn, 1) := by decide +kernel
theorem dX3_has_0 : decode cX3_has 0 = .ok (.lload_n 0, 1) := by decide +kernel
theorem dX3_has_1 : decode cX3_has 1 = .ok (.iload_n 2, 1) := by decide +kernel
theorem dX3_has_2 : decode cX3_has 2 = .ok (.lshr, 1) := by decide +kernel
theorem dX3_has_3 : decode cX3_has 3 = .ok (.lconst 1, 1) := by decide +kernel
theorem dX3_has_4 : decode cX3_has 4 = .ok (.land, 1) := by decide +kernel
theorem dX3_has_5 : decode cX3_has 5 = .ok (.lconst 0, 1) := by decide +kernel
theorem dX3_has_6 : decode cX3_has 6 = .ok (.lcmp, 1) := by decide +kernel
theorem dX3_has_7 : decode cX3_has 7 = .ok (.ifCond .eq 7, 3) := by decide +kernel
theorem dX3_has_10 : decode cX3_has 10 = .ok (.iconst 1, 1) := by decide +kernel
theorem dX3_has_11 : decode cX3_has 11 = .ok (.goto 4, 3) := by decide +kernel
theorem dX3_has_14 : decode cX3_has 14 = .ok (.iconst 0, 1) := by decide +kernel
theorem dX3_has_15 : decode cX3_has 15 = .ok (.ireturn, 1) := by decide +kernel
theorem dX3_flightAt_0 : decode cX3_flightAt 0 = .ok (.iload_n 1, 1) := by decide +kernel
theorem dX3_flightAt_1 : decode cX3_flightAt 1 = .ok (.ifCond .lt 20, 3) := by decide +kernel
theorem dX3_flightAt_4 : decode cX3_flightAt 4 = .ok (.iload_n 1, 1) := by decide +kernel
theorem dX3_flightAt_5 : decode cX3_flightAt 5 = .ok (.aload_n 0, 1) := by decide +kernel
theorem dX3_flightAt_6 : decode cX3_flightAt 6 = .ok (.getfield 36, 3) := by decide +kernel
theorem dX3_flightAt_9 : decode cX3_flightAt 9 = .ok (.if_icmp .ge 12, 3) := by decide +kernel
theorem dX3_flightAt_12 : decode cX3_flightAt 12 = .ok (.aload_n 0, 1) := by decide +kernel
theorem dX3_flightAt_13 : decode cX3_flightAt 13 = .ok (.getfield 11, 3) := by decide +kernel
theorem dX3_flightAt_16 : decode cX3_flightAt 16 = .ok (.iload_n 1, 1) := by decide +kernel
theorem dX3_flightAt_17 : decode cX3_flightAt 17 = .ok (.aaload, 1) := by decide +kernel
theorem dX3_flightAt_18 : decode cX3_flightAt 18 = .ok (.goto 4, 3) := by decide +kernel
theorem dX3_flightAt_21 : decode cX3_flightAt 21 = .ok (.aconst_null, 1) := by decide +kernel
theorem dX3_flightAt_22 : decode cX3_flightAt 22 = .ok (.areturn, 1) := by decide +kernel
theorem dX3_partyAt_0 : decode cX3_partyAt 0 = .ok (.iload_n 1, 1) := by decide +kernel
theorem dX3_partyAt_1 : decode cX3_partyAt 1 = .ok (.ifCond .lt 20, 3) := by decide +kernel
theorem dX3_partyAt_4 : decode cX3_partyAt 4 = .ok (.iload_n 1, 1) := by decide +kernel
theorem dX3_partyAt_5 : decode cX3_partyAt 5 = .ok (.aload_n 0, 1) := by decide +kernel
theorem dX3_partyAt_6 : decode cX3_partyAt 6 = .ok (.getfield 40, 3) := by decide +kernel
theorem dX3_partyAt_9 : decode cX3_partyAt 9 = .ok (.if_icmp .ge 12, 3) := by decide +kernel
theorem dX3_partyAt_12 : decode cX3_partyAt 12 = .ok (.aload_n 0, 1) := by decide +kernel
theorem dX3_partyAt_13 : decode cX3_partyAt 13 = .ok (.getfield 17, 3) := by decide +kernel
theorem dX3_partyAt_16 : decode cX3_partyAt 16 = .ok (.iload_n 1, 1) := by decide +kernel
theorem dX3_partyAt_17 : decode cX3_partyAt 17 = .ok (.aaload, 1) := by decide +kernel
theorem dX3_partyAt_18 : decode cX3_partyAt 18 = .ok (.goto 4, 3) := by decide +kernel
theorem dX3_partyAt_21 : decode cX3_partyAt 21 = .ok (.aconst_null, 1) := by decide +kernel
theorem dX3_partyAt_22 : decode cX3_partyAt 22 = .ok (.areturn, 1) := by decide +kernel
theorem dX3_numberOf_0 : decode cX3_numberOf 0 = .ok (.aload_n 0, 1) := by decide +kernel
theorem dX3_numberOf_1 : decode cX3_numberOf 1 = .ok (.ifnonnull 7, 3) := by decide +kernel
theorem dX3_numberOf_4 : decode cX3_numberOf 4 = .ok (.iconst (-1), 1) := by decide +kernel
theorem dX3_numberOf_5 : decode cX3_numberOf 5 = .ok (.goto 7, 3) := by decide +kernel
theorem dX3_numberOf_8 : decode cX3_numberOf 8 = .ok (.aload_n 0, 1) := by decide +kernel
theorem dX3_numberOf_9 : decode cX3_numberOf 9 = .ok (.getfield 99, 3) := by decide +kernel
theorem dX3_numberOf_12 : decode cX3_numberOf 12 = .ok (.ireturn, 1) := by decide +kernel
theorem dX3_isOffFlight_0 : decode cX3_isOffFlight 0 = .ok (.aload_n 0, 1) := by decide +kernel
theorem dX3_isOffFlight_1 : decode cX3_isOffFlight 1 = .ok (.ifnull 14, 3) := by decide +kernel
theorem dX3_isOffFlight_4 : decode cX3_isOffFlight 4 = .ok (.aload_n 0, 1) := by decide +kernel
theorem dX3_isOffFlight_5 : decode cX3_isOffFlight 5 = .ok (.getfield 57, 3) := by decide +kernel
theorem dX3_isOffFlight_8 : decode cX3_isOffFlight 8 = .ok (.ifCond .eq 7, 3) := by decide +kernel
theorem dX3_isOffFlight_11 : decode cX3_isOffFlight 11 = .ok (.iconst 1, 1) := by decide +kernel
theorem dX3_isOffFlight_12 : decode cX3_isOffFlight 12 = .ok (.goto 4, 3) := by decide +kernel
theorem dX3_isOffFlight_15 : decode cX3_isOffFlight 15 = .ok (.iconst 0, 1) := by decide +kernel
theorem dX3_isOffFlight_16 : decode cX3_isOffFlight 16 = .ok (.ireturn, 1) := by decide +kernel
theorem dX3_setChange_0 : decode cX3_setChange 0 = .ok (.iload_n 1, 1) := by decide +kernel
theorem dX3_setChange_1 : decode cX3_setChange 1 = .ok (.iconst 0, 1) := by decide +kernel
theorem dX3_setChange_2 : decode cX3_setChange 2 = .ok (.sipush 300, 3) := by decide +kernel
theorem dX3_setChange_5 : decode cX3_setChange 5 = .ok (.invokestatic 46, 3) := by decide +kernel
theorem dX3_setChange_8 : decode cX3_setChange 8 = .ok (.ifCond .ne 5, 3) := by decide +kernel
theorem dX3_setChange_11 : decode cX3_setChange 11 = .ok (.iconst (-1), 1) := by decide +kernel
theorem dX3_setChange_12 : decode cX3_setChange 12 = .ok (.ireturn, 1) := by decide +kernel
theorem dX3_setChange_13 : decode cX3_setChange 13 = .ok (.aload_n 0, 1) := by decide +kernel
theorem dX3_setChange_14 : decode cX3_setChange 14 = .ok (.getfield 43, 3) := by decide +kernel
theorem dX3_setChange_17 : decode cX3_setChange 17 = .ok (.istore_n 2, 1) := by decide +kernel
theorem dX3_setChange_18 : decode cX3_setChange 18 = .ok (.aload_n 0, 1) := by decide +kernel
theorem dX3_setChange_19 : decode cX3_setChange 19 = .ok (.iload_n 1, 1) := by decide +kernel
theorem dX3_setChange_20 : decode cX3_setChange 20 = .ok (.putfield 43, 3) := by decide +kernel
theorem dX3_setChange_23 : decode cX3_setChange 23 = .ok (.iload_n 2, 1) := by decide +kernel
theorem dX3_setChange_24 : decode cX3_setChange 24 = .ok (.ireturn, 1) := by decide +kernel
theorem dX3_loadOf_0 : decode cX3_loadOf 0 = .ok (.iconst 0, 1) := by decide +kernel
theorem dX3_loadOf_1 : decode cX3_loadOf 1 = .ok (.istore_n 2, 1) := by decide +kernel
theorem dX3_loadOf_2 : decode cX3_loadOf 2 = .ok (.iconst 0, 1) := by decide +kernel
theorem dX3_loadOf_3 : decode cX3_loadOf 3 = .ok (.istore_n 3, 1) := by decide +kernel
theorem dX3_loadOf_4 : decode cX3_loadOf 4 = .ok (.iload_n 3, 1) := by decide +kernel
theorem dX3_loadOf_5 : decode cX3_loadOf 5 = .ok (.aload_n 0, 1) := by decide +kernel
theorem dX3_loadOf_6 : decode cX3_loadOf 6 = .ok (.getfield 40, 3) := by decide +kernel
theorem dX3_loadOf_9 : decode cX3_loadOf 9 = .ok (.if_icmp .ge 52, 3) := by decide +kernel
theorem dX3_loadOf_12 : decode cX3_loadOf 12 = .ok (.aload_n 0, 1) := by decide +kernel
theorem dX3_loadOf_13 : decode cX3_loadOf 13 = .ok (.getfield 17, 3) := by decide +kernel
theorem dX3_loadOf_16 : decode cX3_loadOf 16 = .ok (.iload_n 3, 1) := by decide +kernel
theorem dX3_loadOf_17 : decode cX3_loadOf 17 = .ok (.aaload, 1) := by decide +kernel
theorem dX3_loadOf_18 : decode cX3_loadOf 18 = .ok (.astore 4, 2) := by decide +kernel
theorem dX3_loadOf_20 : decode cX3_loadOf 20 = .ok (.aload 4, 2) := by decide +kernel
theorem dX3_loadOf_22 : decode cX3_loadOf 22 = .ok (.aload_n 1, 1) := by decide +kernel
theorem dX3_loadOf_23 : decode cX3_loadOf 23 = .ok (.invokevirtual 218, 3) := by decide +kernel
theorem dX3_loadOf_26 : decode cX3_loadOf 26 = .ok (.ifCond .ne 21, 3) := by decide +kernel
theorem dX3_loadOf_29 : decode cX3_loadOf 29 = .ok (.aload 4, 2) := by decide +kernel
theorem dX3_loadOf_31 : decode cX3_loadOf 31 = .ok (.getfield 108, 3) := by decide +kernel
theorem dX3_loadOf_34 : decode cX3_loadOf 34 = .ok (.aload_n 1, 1) := by decide +kernel
theorem dX3_loadOf_35 : decode cX3_loadOf 35 = .ok (.if_acmp .eq 12, 3) := by decide +kernel
theorem dX3_loadOf_38 : decode cX3_loadOf 38 = .ok (.aload 4, 2) := by decide +kernel
theorem dX3_loadOf_40 : decode cX3_loadOf 40 = .ok (.getfield 114, 3) := by decide +kernel
theorem dX3_loadOf_43 : decode cX3_loadOf 43 = .ok (.aload_n 1, 1) := by decide +kernel
theorem dX3_loadOf_44 : decode cX3_loadOf 44 = .ok (.if_acmp .ne 11, 3) := by decide +kernel
theorem dX3_loadOf_47 : decode cX3_loadOf 47 = .ok (.iload_n 2, 1) := by decide +kernel
theorem dX3_loadOf_48 : decode cX3_loadOf 48 = .ok (.aload 4, 2) := by decide +kernel
theorem dX3_loadOf_50 : decode cX3_loadOf 50 = .ok (.getfield 102, 3) := by decide +kernel
theorem dX3_loadOf_53 : decode cX3_loadOf 53 = .ok (.iadd, 1) := by decide +kernel
theorem dX3_loadOf_54 : decode cX3_loadOf 54 = .ok (.istore_n 2, 1) := by decide +kernel
theorem dX3_loadOf_55 : decode cX3_loadOf 55 = .ok (.iinc 3 1, 3) := by decide +kernel
theorem dX3_loadOf_58 : decode cX3_loadOf 58 = .ok (.goto (-54), 3) := by decide +kernel
theorem dX3_loadOf_61 : decode cX3_loadOf 61 = .ok (.iload_n 2, 1) := by decide +kernel
theorem dX3_loadOf_62 : decode cX3_loadOf 62 = .ok (.ireturn, 1) := by decide +kernel
theorem dX3_overOf_0 : decode cX3_overOf 0 = .ok (.aload_n 0, 1) := by decide +kernel
theorem dX3_overOf_1 : decode cX3_overOf 1 = .ok (.aload_n 1, 1) := by decide +kernel
theorem dX3_overOf_2 : decode cX3_overOf 2 = .ok (.invokevirtual 68, 3) := by decide +kernel
theorem dX3_overOf_5 : decode cX3_overOf 5 = .ok (.istore_n 2, 1) := by decide +kernel
theorem dX3_overOf_6 : decode cX3_overOf 6 = .ok (.aload_n 1, 1) := by decide +kernel
theorem dX3_overOf_7 : decode cX3_overOf 7 = .ok (.getfield 57, 3) := by decide +kernel
theorem dX3_overOf_10 : decode cX3_overOf 10 = .ok (.ifCond .eq 7, 3) := by decide +kernel
theorem dX3_overOf_13 : decode cX3_overOf 13 = .ok (.iload_n 2, 1) := by decide +kernel
theorem dX3_overOf_14 : decode cX3_overOf 14 = .ok (.goto 13, 3) := by decide +kernel
theorem dX3_overOf_17 : decode cX3_overOf 17 = .ok (.iconst 0, 1) := by decide +kernel
theorem dX3_overOf_18 : decode cX3_overOf 18 = .ok (.iload_n 2, 1) := by decide +kernel
theorem dX3_overOf_19 : decode cX3_overOf 19 = .ok (.aload_n 1, 1) := by decide +kernel
theorem dX3_overOf_20 : decode cX3_overOf 20 = .ok (.getfield 75, 3) := by decide +kernel
theorem dX3_overOf_23 : decode cX3_overOf 23 = .ok (.isub, 1) := by decide +kernel
theorem dX3_overOf_24 : decode cX3_overOf 24 = .ok (.invokestatic 221, 3) := by decide +kernel
theorem dX3_overOf_27 : decode cX3_overOf 27 = .ok (.ireturn, 1) := by decide +kernel
theorem dX3_mustPeople_0 : decode cX3_mustPeople 0 = .ok (.iconst 0, 1) := by decide +kernel
theorem dX3_mustPeople_1 : decode cX3_mustPeople 1 = .ok (.istore_n 2, 1) := by decide +kernel
theorem dX3_mustPeople_2 : decode cX3_mustPeople 2 = .ok (.iconst 0, 1) := by decide +kernel
theorem dX3_mustPeople_3 : decode cX3_mustPeople 3 = .ok (.istore_n 3, 1) := by decide +kernel
theorem dX3_mustPeople_4 : decode cX3_mustPeople 4 = .ok (.iload_n 3, 1) := by decide +kernel
theorem dX3_mustPeople_5 : decode cX3_mustPeople 5 = .ok (.aload_n 0, 1) := by decide +kernel
theorem dX3_mustPeople_6 : decode cX3_mustPeople 6 = .ok (.getfield 40, 3) := by decide +kernel
theorem dX3_mustPeople_9 : decode cX3_mustPeople 9 = .ok (.if_icmp .ge 46, 3) := by decide +kernel
theorem dX3_mustPeople_12 : decode cX3_mustPeople 12 = .ok (.aload_n 0, 1) := by decide +kernel
theorem dX3_mustPeople_13 : decode cX3_mustPeople 13 = .ok (.getfield 17, 3) := by decide +kernel
theorem dX3_mustPeople_16 : decode cX3_mustPeople 16 = .ok (.iload_n 3, 1) := by decide +kernel
theorem dX3_mustPeople_17 : decode cX3_mustPeople 17 = .ok (.aaload, 1) := by decide +kernel
theorem dX3_mustPeople_18 : decode cX3_mustPeople 18 = .ok (.getfield 227, 3) := by decide +kernel
theorem dX3_mustPeople_21 : decode cX3_mustPeople 21 = .ok (.ifCond .eq 28, 3) := by decide +kernel
theorem dX3_mustPeople_24 : decode cX3_mustPeople 24 = .ok (.aload_n 0, 1) := by decide +kernel
theorem dX3_mustPeople_25 : decode cX3_mustPeople 25 = .ok (.getfield 17, 3) := by decide +kernel
theorem dX3_mustPeople_28 : decode cX3_mustPeople 28 = .ok (.iload_n 3, 1) := by decide +kernel
theorem dX3_mustPeople_29 : decode cX3_mustPeople 29 = .ok (.aaload, 1) := by decide +kernel
theorem dX3_mustPeople_30 : decode cX3_mustPeople 30 = .ok (.aload_n 1, 1) := by decide +kernel
theorem dX3_mustPeople_31 : decode cX3_mustPeople 31 = .ok (.invokevirtual 218, 3) := by decide +kernel
theorem dX3_mustPeople_34 : decode cX3_mustPeople 34 = .ok (.ifCond .eq 15, 3) := by decide +kernel
theorem dX3_mustPeople_37 : decode cX3_mustPeople 37 = .ok (.iload_n 2, 1) := by decide +kernel
theorem dX3_mustPeople_38 : decode cX3_mustPeople 38 = .ok (.aload_n 0, 1) := by decide +kernel
theorem dX3_mustPeople_39 : decode cX3_mustPeople 39 = .ok (.getfield 17, 3) := by decide +kernel
theorem dX3_mustPeople_42 : decode cX3_mustPeople 42 = .ok (.iload_n 3, 1) := by decide +kernel
theorem dX3_mustPeople_43 : decode cX3_mustPeople 43 = .ok (.aaload, 1) := by decide +kernel
theorem dX3_mustPeople_44 : decode cX3_mustPeople 44 = .ok (.getfield 102, 3) := by decide +kernel
theorem dX3_mustPeople_47 : decode cX3_mustPeople 47 = .ok (.iadd, 1) := by decide +kernel
theorem dX3_mustPeople_48 : decode cX3_mustPeople 48 = .ok (.istore_n 2, 1) := by decide +kernel
theorem dX3_mustPeople_49 : decode cX3_mustPeople 49 = .ok (.iinc 3 1, 3) := by decide +kernel
theorem dX3_mustPeople_52 : decode cX3_mustPeople 52 = .ok (.goto (-48), 3) := by decide +kernel
theorem dX3_mustPeople_55 : decode cX3_mustPeople 55 = .ok (.iload_n 2, 1) := by decide +kernel
theorem dX3_mustPeople_56 : decode cX3_mustPeople 56 = .ok (.ireturn, 1) := by decide +kernel
theorem dX3_flyingPeople_0 : decode cX3_flyingPeople 0 = .ok (.iconst 0, 1) := by decide +kernel
theorem dX3_flyingPeople_1 : decode cX3_flyingPeople 1 = .ok (.istore_n 1, 1) := by decide +kernel
theorem dX3_flyingPeople_2 : decode cX3_flyingPeople 2 = .ok (.iconst 0, 1) := by decide +kernel
theorem dX3_flyingPeople_3 : decode cX3_flyingPeople 3 = .ok (.istore_n 2, 1) := by decide +kernel
theorem dX3_flyingPeople_4 : decode cX3_flyingPeople 4 = .ok (.iload_n 2, 1) := by decide +kernel
theorem dX3_flyingPeople_5 : decode cX3_flyingPeople 5 = .ok (.aload_n 0, 1) := by decide +kernel
theorem dX3_flyingPeople_6 : decode cX3_flyingPeople 6 = .ok (.getfield 40, 3) := by decide +kernel
theorem dX3_flyingPeople_9 : decode cX3_flyingPeople 9 = .ok (.if_icmp .ge 48, 3) := by decide +kernel
theorem dX3_flyingPeople_12 : decode cX3_flyingPeople 12 = .ok (.aload_n 0, 1) := by decide +kernel
theorem dX3_flyingPeople_13 : decode cX3_flyingPeople 13 = .ok (.getfield 17, 3) := by decide +kernel
theorem dX3_flyingPeople_16 : decode cX3_flyingPeople 16 = .ok (.iload_n 2, 1) := by decide +kernel
theorem dX3_flyingPeople_17 : decode cX3_flyingPeople 17 = .ok (.aaload, 1) := by decide +kernel
theorem dX3_flyingPeople_18 : decode cX3_flyingPeople 18 = .ok (.getfield 92, 3) := by decide +kernel
theorem dX3_flyingPeople_21 : decode cX3_flyingPeople 21 = .ok (.ifCond .ne 30, 3) := by decide +kernel
theorem dX3_flyingPeople_24 : decode cX3_flyingPeople 24 = .ok (.aload_n 0, 1) := by decide +kernel
theorem dX3_flyingPeople_25 : decode cX3_flyingPeople 25 = .ok (.getfield 17, 3) := by decide +kernel
theorem dX3_flyingPeople_28 : decode cX3_flyingPeople 28 = .ok (.iload_n 2, 1) := by decide +kernel
theorem dX3_flyingPeople_29 : decode cX3_flyingPeople 29 = .ok (.aaload, 1) := by decide +kernel
theorem dX3_flyingPeople_30 : decode cX3_flyingPeople 30 = .ok (.getfield 95, 3) := by decide +kernel
theorem dX3_flyingPeople_33 : decode cX3_flyingPeople 33 = .ok (.getfield 57, 3) := by decide +kernel
theorem dX3_flyingPeople_36 : decode cX3_flyingPeople 36 = .ok (.ifCond .ne 15, 3) := by decide +kernel
theorem dX3_flyingPeople_39 : decode cX3_flyingPeople 39 = .ok (.iload_n 1, 1) := by decide +kernel
theorem dX3_flyingPeople_40 : decode cX3_flyingPeople 40 = .ok (.aload_n 0, 1) := by decide +kernel
theorem dX3_flyingPeople_41 : decode cX3_flyingPeople 41 = .ok (.getfield 17, 3) := by decide +kernel
theorem dX3_flyingPeople_44 : decode cX3_flyingPeople 44 = .ok (.iload_n 2, 1) := by decide +kernel
theorem dX3_flyingPeople_45 : decode cX3_flyingPeople 45 = .ok (.aaload, 1) := by decide +kernel
theorem dX3_flyingPeople_46 : decode cX3_flyingPeople 46 = .ok (.getfield 102, 3) := by decide +kernel
theorem dX3_flyingPeople_49 : decode cX3_flyingPeople 49 = .ok (.iadd, 1) := by decide +kernel
theorem dX3_flyingPeople_50 : decode cX3_flyingPeople 50 = .ok (.istore_n 1, 1) := by decide +kernel
theorem dX3_flyingPeople_51 : decode cX3_flyingPeople 51 = .ok (.iinc 2 1, 3) := by decide +kernel
theorem dX3_flyingPeople_54 : decode cX3_flyingPeople 54 = .ok (.goto (-50), 3) := by decide +kernel
theorem dX3_flyingPeople_57 : decode cX3_flyingPeople 57 = .ok (.iload_n 1, 1) := by decide +kernel
theorem dX3_flyingPeople_58 : decode cX3_flyingPeople 58 = .ok (.ireturn, 1) := by decide +kernel
theorem dX3_peopleIn_0 : decode cX3_peopleIn 0 = .ok (.iconst 0, 1) := by decide +kernel
theorem dX3_peopleIn_1 : decode cX3_peopleIn 1 = .ok (.istore_n 2, 1) := by decide +kernel
theorem dX3_peopleIn_2 : decode cX3_peopleIn 2 = .ok (.iconst 0, 1) := by decide +kernel
theorem dX3_peopleIn_3 : decode cX3_peopleIn 3 = .ok (.istore_n 3, 1) := by decide +kernel
theorem dX3_peopleIn_4 : decode cX3_peopleIn 4 = .ok (.iload_n 3, 1) := by decide +kernel
theorem dX3_peopleIn_5 : decode cX3_peopleIn 5 = .ok (.aload_n 0, 1) := by decide +kernel
theorem dX3_peopleIn_6 : decode cX3_peopleIn 6 = .ok (.getfield 40, 3) := by decide +kernel
theorem dX3_peopleIn_9 : decode cX3_peopleIn 9 = .ok (.if_icmp .ge 34, 3) := by decide +kernel
theorem dX3_peopleIn_12 : decode cX3_peopleIn 12 = .ok (.aload_n 0, 1) := by decide +kernel
theorem dX3_peopleIn_13 : decode cX3_peopleIn 13 = .ok (.getfield 17, 3) := by decide +kernel
theorem dX3_peopleIn_16 : decode cX3_peopleIn 16 = .ok (.iload_n 3, 1) := by decide +kernel
theorem dX3_peopleIn_17 : decode cX3_peopleIn 17 = .ok (.aaload, 1) := by decide +kernel
theorem dX3_peopleIn_18 : decode cX3_peopleIn 18 = .ok (.getfield 92, 3) := by decide +kernel
theorem dX3_peopleIn_21 : decode cX3_peopleIn 21 = .ok (.iload_n 1, 1) := by decide +kernel
theorem dX3_peopleIn_22 : decode cX3_peopleIn 22 = .ok (.if_icmp .ne 15, 3) := by decide +kernel
theorem dX3_peopleIn_25 : decode cX3_peopleIn 25 = .ok (.iload_n 2, 1) := by decide +kernel
theorem dX3_peopleIn_26 : decode cX3_peopleIn 26 = .ok (.aload_n 0, 1) := by decide +kernel
theorem dX3_peopleIn_27 : decode cX3_peopleIn 27 = .ok (.getfield 17, 3) := by decide +kernel
theorem dX3_peopleIn_30 : decode cX3_peopleIn 30 = .ok (.iload_n 3, 1) := by decide +kernel
theorem dX3_peopleIn_31 : decode cX3_peopleIn 31 = .ok (.aaload, 1) := by decide +kernel
theorem dX3_peopleIn_32 : decode cX3_peopleIn 32 = .ok (.getfield 102, 3) := by decide +kernel
theorem dX3_peopleIn_35 : decode cX3_peopleIn 35 = .ok (.iadd, 1) := by decide +kernel
theorem dX3_peopleIn_36 : decode cX3_peopleIn 36 = .ok (.istore_n 2, 1) := by decide +kernel
theorem dX3_peopleIn_37 : decode cX3_peopleIn 37 = .ok (.iinc 3 1, 3) := by decide +kernel
theorem dX3_peopleIn_40 : decode cX3_peopleIn 40 = .ok (.goto (-36), 3) := by decide +kernel
theorem dX3_peopleIn_43 : decode cX3_peopleIn 43 = .ok (.iload_n 2, 1) := by decide +kernel
theorem dX3_peopleIn_44 : decode cX3_peopleIn 44 = .ok (.ireturn, 1) := by decide +kernel
theorem dX3_peopleWithWay_0 : decode cX3_peopleWithWay 0 = .ok (.iconst 0, 1) := by decide +kernel
theorem dX3_peopleWithWay_1 : decode cX3_peopleWithWay 1 = .ok (.istore_n 1, 1) := by decide +kernel
theorem dX3_peopleWithWay_2 : decode cX3_peopleWithWay 2 = .ok (.iconst 0, 1) := by decide +kernel
theorem dX3_peopleWithWay_3 : decode cX3_peopleWithWay 3 = .ok (.istore_n 2, 1) := by decide +kernel
theorem dX3_peopleWithWay_4 : decode cX3_peopleWithWay 4 = .ok (.iload_n 2, 1) := by decide +kernel
theorem dX3_peopleWithWay_5 : decode cX3_peopleWithWay 5 = .ok (.aload_n 0, 1) := by decide +kernel
theorem dX3_peopleWithWay_6 : decode cX3_peopleWithWay 6 = .ok (.getfield 40, 3) := by decide +kernel
theorem dX3_peopleWithWay_9 : decode cX3_peopleWithWay 9 = .ok (.if_icmp .ge 33, 3) := by decide +kernel
theorem dX3_peopleWithWay_12 : decode cX3_peopleWithWay 12 = .ok (.aload_n 0, 1) := by decide +kernel
theorem dX3_peopleWithWay_13 : decode cX3_peopleWithWay 13 = .ok (.getfield 17, 3) := by decide +kernel
theorem dX3_peopleWithWay_16 : decode cX3_peopleWithWay 16 = .ok (.iload_n 2, 1) := by decide +kernel
theorem dX3_peopleWithWay_17 : decode cX3_peopleWithWay 17 = .ok (.aaload, 1) := by decide +kernel
theorem dX3_peopleWithWay_18 : decode cX3_peopleWithWay 18 = .ok (.getfield 108, 3) := by decide +kernel
theorem dX3_peopleWithWay_21 : decode cX3_peopleWithWay 21 = .ok (.ifnull 15, 3) := by decide +kernel
theorem dX3_peopleWithWay_24 : decode cX3_peopleWithWay 24 = .ok (.iload_n 1, 1) := by decide +kernel
theorem dX3_peopleWithWay_25 : decode cX3_peopleWithWay 25 = .ok (.aload_n 0, 1) := by decide +kernel
theorem dX3_peopleWithWay_26 : decode cX3_peopleWithWay 26 = .ok (.getfield 17, 3) := by decide +kernel
theorem dX3_peopleWithWay_29 : decode cX3_peopleWithWay 29 = .ok (.iload_n 2, 1) := by decide +kernel
theorem dX3_peopleWithWay_30 : decode cX3_peopleWithWay 30 = .ok (.aaload, 1) := by decide +kernel
theorem dX3_peopleWithWay_31 : decode cX3_peopleWithWay 31 = .ok (.getfield 102, 3) := by decide +kernel
theorem dX3_peopleWithWay_34 : decode cX3_peopleWithWay 34 = .ok (.iadd, 1) := by decide +kernel
theorem dX3_peopleWithWay_35 : decode cX3_peopleWithWay 35 = .ok (.istore_n 1, 1) := by decide +kernel
theorem dX3_peopleWithWay_36 : decode cX3_peopleWithWay 36 = .ok (.iinc 2 1, 3) := by decide +kernel
theorem dX3_peopleWithWay_39 : decode cX3_peopleWithWay 39 = .ok (.goto (-35), 3) := by decide +kernel
theorem dX3_peopleWithWay_42 : decode cX3_peopleWithWay 42 = .ok (.iload_n 1, 1) := by decide +kernel
theorem dX3_peopleWithWay_43 : decode cX3_peopleWithWay 43 = .ok (.ireturn, 1) := by decide +kernel
theorem dX3_allClaims_0 : decode cX3_allClaims 0 = .ok (.iconst 0, 1) := by decide +kernel
theorem dX3_allClaims_1 : decode cX3_allClaims 1 = .ok (.istore_n 1, 1) := by decide +kernel
theorem dX3_allClaims_2 : decode cX3_allClaims 2 = .ok (.iconst 0, 1) := by decide +kernel
theorem dX3_allClaims_3 : decode cX3_allClaims 3 = .ok (.istore_n 2, 1) := by decide +kernel
theorem dX3_allClaims_4 : decode cX3_allClaims 4 = .ok (.iload_n 2, 1) := by decide +kernel
theorem dX3_allClaims_5 : decode cX3_allClaims 5 = .ok (.aload_n 0, 1) := by decide +kernel
theorem dX3_allClaims_6 : decode cX3_allClaims 6 = .ok (.getfield 40, 3) := by decide +kernel
theorem dX3_allClaims_9 : decode cX3_allClaims 9 = .ok (.if_icmp .ge 22, 3) := by decide +kernel
theorem dX3_allClaims_12 : decode cX3_allClaims 12 = .ok (.iload_n 1, 1) := by decide +kernel
theorem dX3_allClaims_13 : decode cX3_allClaims 13 = .ok (.aload_n 0, 1) := by decide +kernel
theorem dX3_allClaims_14 : decode cX3_allClaims 14 = .ok (.aload_n 0, 1) := by decide +kernel
theorem dX3_allClaims_15 : decode cX3_allClaims 15 = .ok (.getfield 17, 3) := by decide +kernel
theorem dX3_allClaims_18 : decode cX3_allClaims 18 = .ok (.iload_n 2, 1) := by decide +kernel
theorem dX3_allClaims_19 : decode cX3_allClaims 19 = .ok (.aaload, 1) := by decide +kernel
theorem dX3_allClaims_20 : decode cX3_allClaims 20 = .ok (.invokevirtual 121, 3) := by decide +kernel
theorem dX3_allClaims_23 : decode cX3_allClaims 23 = .ok (.iadd, 1) := by decide +kernel
theorem dX3_allClaims_24 : decode cX3_allClaims 24 = .ok (.istore_n 1, 1) := by decide +kernel
theorem dX3_allClaims_25 : decode cX3_allClaims 25 = .ok (.iinc 2 1, 3) := by decide +kernel
theorem dX3_allClaims_28 : decode cX3_allClaims 28 = .ok (.goto (-24), 3) := by decide +kernel
theorem dX3_allClaims_31 : decode cX3_allClaims 31 = .ok (.iload_n 1, 1) := by decide +kernel
theorem dX3_allClaims_32 : decode cX3_allClaims 32 = .ok (.ireturn, 1) := by decide +kernel
theorem dX3_claimOf_0 : decode cX3_claimOf 0 = .ok (.aload_n 1, 1) := by decide +kernel
theorem dX3_claimOf_1 : decode cX3_claimOf 1 = .ok (.getfield 92, 3) := by decide +kernel
theorem dX3_claimOf_4 : decode cX3_claimOf 4 = .ok (.iconst 2, 1) := by decide +kernel
theorem dX3_claimOf_5 : decode cX3_claimOf 5 = .ok (.if_icmp .eq 13, 3) := by decide +kernel
theorem dX3_claimOf_8 : decode cX3_claimOf 8 = .ok (.aload_n 1, 1) := by decide +kernel
theorem dX3_claimOf_9 : decode cX3_claimOf 9 = .ok (.getfield 105, 3) := by decide +kernel
theorem dX3_claimOf_12 : decode cX3_claimOf 12 = .ok (.aload_n 1, 1) := by decide +kernel
theorem dX3_claimOf_13 : decode cX3_claimOf 13 = .ok (.getfield 102, 3) := by decide +kernel
theorem dX3_claimOf_16 : decode cX3_claimOf 16 = .ok (.imul, 1) := by decide +kernel
theorem dX3_claimOf_17 : decode cX3_claimOf 17 = .ok (.ireturn, 1) := by decide +kernel
theorem dX3_claimOf_18 : decode cX3_claimOf 18 = .ok (.aload_n 0, 1) := by decide +kernel
theorem dX3_claimOf_19 : decode cX3_claimOf 19 = .ok (.aload_n 1, 1) := by decide +kernel
theorem dX3_claimOf_20 : decode cX3_claimOf 20 = .ok (.getfield 95, 3) := by decide +kernel
theorem dX3_claimOf_23 : decode cX3_claimOf 23 = .ok (.getfield 230, 3) := by decide +kernel
theorem dX3_claimOf_26 : decode cX3_claimOf 26 = .ok (.invokevirtual 233, 3) := by decide +kernel
theorem dX3_claimOf_29 : decode cX3_claimOf 29 = .ok (.istore_n 2, 1) := by decide +kernel
theorem dX3_claimOf_30 : decode cX3_claimOf 30 = .ok (.aload_n 1, 1) := by decide +kernel
theorem dX3_claimOf_31 : decode cX3_claimOf 31 = .ok (.getfield 108, 3) := by decide +kernel
theorem dX3_claimOf_34 : decode cX3_claimOf 34 = .ok (.ifnonnull 10, 3) := by decide +kernel
theorem dX3_claimOf_37 : decode cX3_claimOf 37 = .ok (.iload_n 2, 1) := by decide +kernel
theorem dX3_claimOf_38 : decode cX3_claimOf 38 = .ok (.aload_n 1, 1) := by decide +kernel
theorem dX3_claimOf_39 : decode cX3_claimOf 39 = .ok (.getfield 102, 3) := by decide +kernel
theorem dX3_claimOf_42 : decode cX3_claimOf 42 = .ok (.imul, 1) := by decide +kernel
theorem dX3_claimOf_43 : decode cX3_claimOf 43 = .ok (.ireturn, 1) := by decide +kernel
theorem dX3_claimOf_44 : decode cX3_claimOf 44 = .ok (.aload_n 1, 1) := by decide +kernel
theorem dX3_claimOf_45 : decode cX3_claimOf 45 = .ok (.invokevirtual 117, 3) := by decide +kernel
theorem dX3_claimOf_48 : decode cX3_claimOf 48 = .ok (.istore_n 3, 1) := by decide +kernel
theorem dX3_claimOf_49 : decode cX3_claimOf 49 = .ok (.iload_n 3, 1) := by decide +kernel
theorem dX3_claimOf_50 : decode cX3_claimOf 50 = .ok (.bipush 120, 2) := by decide +kernel
theorem dX3_claimOf_52 : decode cX3_claimOf 52 = .ok (.if_icmp .ge 5, 3) := by decide +kernel
theorem dX3_claimOf_55 : decode cX3_claimOf 55 = .ok (.iconst 0, 1) := by decide +kernel
theorem dX3_claimOf_56 : decode cX3_claimOf 56 = .ok (.ireturn, 1) := by decide +kernel
theorem dX3_claimOf_57 : decode cX3_claimOf 57 = .ok (.iload_n 3, 1) := by decide +kernel
theorem dX3_claimOf_58 : decode cX3_claimOf 58 = .ok (.sipush 240, 3) := by decide +kernel
theorem dX3_claimOf_61 : decode cX3_claimOf 61 = .ok (.if_icmp .ge 9, 3) := by decide +kernel
theorem dX3_claimOf_64 : decode cX3_claimOf 64 = .ok (.iload_n 2, 1) := by decide +kernel
theorem dX3_claimOf_65 : decode cX3_claimOf 65 = .ok (.iconst 2, 1) := by decide +kernel
theorem dX3_claimOf_66 : decode cX3_claimOf 66 = .ok (.idiv, 1) := by decide +kernel
theorem dX3_claimOf_67 : decode cX3_claimOf 67 = .ok (.goto 4, 3) := by decide +kernel
theorem dX3_claimOf_70 : decode cX3_claimOf 70 = .ok (.iload_n 2, 1) := by decide +kernel
theorem dX3_claimOf_71 : decode cX3_claimOf 71 = .ok (.aload_n 1, 1) := by decide +kernel
theorem dX3_claimOf_72 : decode cX3_claimOf 72 = .ok (.getfield 102, 3) := by decide +kernel
theorem dX3_claimOf_75 : decode cX3_claimOf 75 = .ok (.imul, 1) := by decide +kernel
theorem dX3_claimOf_76 : decode cX3_claimOf 76 = .ok (.ireturn, 1) := by decide +kernel
theorem dX3_baseFee_0 : decode cX3_baseFee 0 = .ok (.iload_n 1, 1) := by decide +kernel
theorem dX3_baseFee_1 : decode cX3_baseFee 1 = .ok (.sipush 1500, 3) := by decide +kernel
theorem dX3_baseFee_4 : decode cX3_baseFee 4 = .ok (.if_icmp .gt 10, 3) := by decide +kernel
theorem dX3_baseFee_7 : decode cX3_baseFee 7 = .ok (.aload_n 0, 1) := by decide +kernel
theorem dX3_baseFee_8 : decode cX3_baseFee 8 = .ok (.getfield 21, 3) := by decide +kernel
theorem dX3_baseFee_11 : decode cX3_baseFee 11 = .ok (.iconst 0, 1) := by decide +kernel
theorem dX3_baseFee_12 : decode cX3_baseFee 12 = .ok (.iaload, 1) := by decide +kernel
theorem dX3_baseFee_13 : decode cX3_baseFee 13 = .ok (.ireturn, 1) := by decide +kernel
theorem dX3_baseFee_14 : decode cX3_baseFee 14 = .ok (.iload_n 1, 1) := by decide +kernel
theorem dX3_baseFee_15 : decode cX3_baseFee 15 = .ok (.sipush 3500, 3) := by decide +kernel
theorem dX3_baseFee_18 : decode cX3_baseFee 18 = .ok (.if_icmp .gt 12, 3) := by decide +kernel
theorem dX3_baseFee_21 : decode cX3_baseFee 21 = .ok (.aload_n 0, 1) := by decide +kernel
theorem dX3_baseFee_22 : decode cX3_baseFee 22 = .ok (.getfield 21, 3) := by decide +kernel
theorem dX3_baseFee_25 : decode cX3_baseFee 25 = .ok (.iconst 1, 1) := by decide +kernel
theorem dX3_baseFee_26 : decode cX3_baseFee 26 = .ok (.iaload, 1) := by decide +kernel
theorem dX3_baseFee_27 : decode cX3_baseFee 27 = .ok (.goto 9, 3) := by decide +kernel
theorem dX3_baseFee_30 : decode cX3_baseFee 30 = .ok (.aload_n 0, 1) := by decide +kernel
theorem dX3_baseFee_31 : decode cX3_baseFee 31 = .ok (.getfield 21, 3) := by decide +kernel
theorem dX3_baseFee_34 : decode cX3_baseFee 34 = .ok (.iconst 2, 1) := by decide +kernel
theorem dX3_baseFee_35 : decode cX3_baseFee 35 = .ok (.iaload, 1) := by decide +kernel
theorem dX3_baseFee_36 : decode cX3_baseFee 36 = .ok (.ireturn, 1) := by decide +kernel
theorem dX3_cheapestDeal_0 : decode cX3_cheapestDeal 0 = .ok (.iconst 0, 1) := by decide +kernel
theorem dX3_cheapestDeal_1 : decode cX3_cheapestDeal 1 = .ok (.istore_n 3, 1) := by decide +kernel
theorem dX3_cheapestDeal_2 : decode cX3_cheapestDeal 2 = .ok (.iload_n 3, 1) := by decide +kernel
theorem dX3_cheapestDeal_3 : decode cX3_cheapestDeal 3 = .ok (.aload_n 0, 1) := by decide +kernel
theorem dX3_cheapestDeal_4 : decode cX3_cheapestDeal 4 = .ok (.getfield 25, 3) := by decide +kernel
theorem dX3_cheapestDeal_7 : decode cX3_cheapestDeal 7 = .ok (.arraylength, 1) := by decide +kernel
theorem dX3_cheapestDeal_8 : decode cX3_cheapestDeal 8 = .ok (.if_icmp .ge 18, 3) := by decide +kernel
theorem dX3_cheapestDeal_11 : decode cX3_cheapestDeal 11 = .ok (.aload_n 0, 1) := by decide +kernel
theorem dX3_cheapestDeal_12 : decode cX3_cheapestDeal 12 = .ok (.getfield 25, 3) := by decide +kernel
theorem dX3_cheapestDeal_15 : decode cX3_cheapestDeal 15 = .ok (.iload_n 3, 1) := by decide +kernel
theorem dX3_cheapestDeal_16 : decode cX3_cheapestDeal 16 = .ok (.ldc2_w 236, 3) := by decide +kernel
theorem dX3_cheapestDeal_19 : decode cX3_cheapestDeal 19 = .ok (.lastore, 1) := by decide +kernel
theorem dX3_cheapestDeal_20 : decode cX3_cheapestDeal 20 = .ok (.iinc 3 1, 3) := by decide +kernel
theorem dX3_cheapestDeal_23 : decode cX3_cheapestDeal 23 = .ok (.goto (-21), 3) := by decide +kernel
theorem dX3_cheapestDeal_26 : decode cX3_cheapestDeal 26 = .ok (.aload_n 0, 1) := by decide +kernel
theorem dX3_cheapestDeal_27 : decode cX3_cheapestDeal 27 = .ok (.getfield 25, 3) := by decide +kernel
theorem dX3_cheapestDeal_30 : decode cX3_cheapestDeal 30 = .ok (.iconst 0, 1) := by decide +kernel
theorem dX3_cheapestDeal_31 : decode cX3_cheapestDeal 31 = .ok (.lconst 0, 1) := by decide +kernel
theorem dX3_cheapestDeal_32 : decode cX3_cheapestDeal 32 = .ok (.lastore, 1) := by decide +kernel
theorem dX3_cheapestDeal_33 : decode cX3_cheapestDeal 33 = .ok (.iconst 0, 1) := by decide +kernel
theorem dX3_cheapestDeal_34 : decode cX3_cheapestDeal 34 = .ok (.istore_n 3, 1) := by decide +kernel
theorem dX3_cheapestDeal_35 : decode cX3_cheapestDeal 35 = .ok (.iconst 0, 1) := by decide +kernel
theorem dX3_cheapestDeal_36 : decode cX3_cheapestDeal 36 = .ok (.istore 4, 2) := by decide +kernel
theorem dX3_cheapestDeal_38 : decode cX3_cheapestDeal 38 = .ok (.iload 4, 2) := by decide +kernel
theorem dX3_cheapestDeal_40 : decode cX3_cheapestDeal 40 = .ok (.aload_n 0, 1) := by decide +kernel
theorem dX3_cheapestDeal_41 : decode cX3_cheapestDeal 41 = .ok (.getfield 40, 3) := by decide +kernel
theorem dX3_cheapestDeal_44 : decode cX3_cheapestDeal 44 = .ok (.if_icmp .ge 81, 3) := by decide +kernel
theorem dX3_cheapestDeal_47 : decode cX3_cheapestDeal 47 = .ok (.aload_n 0, 1) := by decide +kernel
theorem dX3_cheapestDeal_48 : decode cX3_cheapestDeal 48 = .ok (.getfield 17, 3) := by decide +kernel
theorem dX3_cheapestDeal_51 : decode cX3_cheapestDeal 51 = .ok (.iload 4, 2) := by decide +kernel
theorem dX3_cheapestDeal_53 : decode cX3_cheapestDeal 53 = .ok (.aaload, 1) := by decide +kernel
theorem dX3_cheapestDeal_54 : decode cX3_cheapestDeal 54 = .ok (.astore 5, 2) := by decide +kernel
theorem dX3_cheapestDeal_56 : decode cX3_cheapestDeal 56 = .ok (.aload 5, 2) := by decide +kernel
theorem dX3_cheapestDeal_58 : decode cX3_cheapestDeal 58 = .ok (.aload_n 1, 1) := by decide +kernel
theorem dX3_cheapestDeal_59 : decode cX3_cheapestDeal 59 = .ok (.invokevirtual 238, 3) := by decide +kernel
theorem dX3_cheapestDeal_62 : decode cX3_cheapestDeal 62 = .ok (.ifCond .eq 57, 3) := by decide +kernel
theorem dX3_cheapestDeal_65 : decode cX3_cheapestDeal 65 = .ok (.iload_n 3, 1) := by decide +kernel
theorem dX3_cheapestDeal_66 : decode cX3_cheapestDeal 66 = .ok (.aload 5, 2) := by decide +kernel
theorem dX3_cheapestDeal_68 : decode cX3_cheapestDeal 68 = .ok (.getfield 102, 3) := by decide +kernel
theorem dX3_cheapestDeal_71 : decode cX3_cheapestDeal 71 = .ok (.iadd, 1) := by decide +kernel
theorem dX3_cheapestDeal_72 : decode cX3_cheapestDeal 72 = .ok (.aload_n 0, 1) := by decide +kernel
theorem dX3_cheapestDeal_73 : decode cX3_cheapestDeal 73 = .ok (.getfield 25, 3) := by decide +kernel
theorem dX3_cheapestDeal_76 : decode cX3_cheapestDeal 76 = .ok (.arraylength, 1) := by decide +kernel
theorem dX3_cheapestDeal_77 : decode cX3_cheapestDeal 77 = .ok (.if_icmp .ge 42, 3) := by decide +kernel
theorem dX3_cheapestDeal_80 : decode cX3_cheapestDeal 80 = .ok (.aload_n 0, 1) := by decide +kernel
theorem dX3_cheapestDeal_81 : decode cX3_cheapestDeal 81 = .ok (.iload_n 3, 1) := by decide +kernel
theorem dX3_cheapestDeal_82 : decode cX3_cheapestDeal 82 = .ok (.aload 5, 2) := by decide +kernel
theorem dX3_cheapestDeal_84 : decode cX3_cheapestDeal 84 = .ok (.getfield 102, 3) := by decide +kernel
theorem dX3_cheapestDeal_87 : decode cX3_cheapestDeal 87 = .ok (.aload 5, 2) := by decide +kernel
theorem dX3_cheapestDeal_89 : decode cX3_cheapestDeal 89 = .ok (.getfield 151, 3) := by decide +kernel
theorem dX3_cheapestDeal_92 : decode cX3_cheapestDeal 92 = .ok (.i2l, 1) := by decide +kernel
theorem dX3_cheapestDeal_93 : decode cX3_cheapestDeal 93 = .ok (.aload 5, 2) := by decide +kernel
theorem dX3_cheapestDeal_95 : decode cX3_cheapestDeal 95 = .ok (.getfield 102, 3) := by decide +kernel
theorem dX3_cheapestDeal_98 : decode cX3_cheapestDeal 98 = .ok (.i2l, 1) := by decide +kernel
theorem dX3_cheapestDeal_99 : decode cX3_cheapestDeal 99 = .ok (.lmul, 1) := by decide +kernel
theorem dX3_cheapestDeal_100 : decode cX3_cheapestDeal 100 = .ok (.bipush 20, 2) := by decide +kernel
theorem dX3_cheapestDeal_102 : decode cX3_cheapestDeal 102 = .ok (.lshl, 1) := by decide +kernel
theorem dX3_cheapestDeal_103 : decode cX3_cheapestDeal 103 = .ok (.lconst 1, 1) := by decide +kernel
theorem dX3_cheapestDeal_104 : decode cX3_cheapestDeal 104 = .ok (.iload 4, 2) := by decide +kernel
theorem dX3_cheapestDeal_106 : decode cX3_cheapestDeal 106 = .ok (.lshl, 1) := by decide +kernel
theorem dX3_cheapestDeal_107 : decode cX3_cheapestDeal 107 = .ok (.ladd, 1) := by decide +kernel
theorem dX3_cheapestDeal_108 : decode cX3_cheapestDeal 108 = .ok (.invokevirtual 241, 3) := by decide +kernel
theorem dX3_cheapestDeal_111 : decode cX3_cheapestDeal 111 = .ok (.iload_n 3, 1) := by decide +kernel
theorem dX3_cheapestDeal_112 : decode cX3_cheapestDeal 112 = .ok (.aload 5, 2) := by decide +kernel
theorem dX3_cheapestDeal_114 : decode cX3_cheapestDeal 114 = .ok (.getfield 102, 3) := by decide +kernel
theorem dX3_cheapestDeal_117 : decode cX3_cheapestDeal 117 = .ok (.iadd, 1) := by decide +kernel
theorem dX3_cheapestDeal_118 : decode cX3_cheapestDeal 118 = .ok (.istore_n 3, 1) := by decide +kernel
theorem dX3_cheapestDeal_119 : decode cX3_cheapestDeal 119 = .ok (.iinc 4 1, 3) := by decide +kernel
theorem dX3_cheapestDeal_122 : decode cX3_cheapestDeal 122 = .ok (.goto (-84), 3) := by decide +kernel
theorem dX3_cheapestDeal_125 : decode cX3_cheapestDeal 125 = .ok (.aload_n 0, 1) := by decide +kernel
theorem dX3_cheapestDeal_126 : decode cX3_cheapestDeal 126 = .ok (.iload_n 2, 1) := by decide +kernel
theorem dX3_cheapestDeal_127 : decode cX3_cheapestDeal 127 = .ok (.iload_n 3, 1) := by decide +kernel
theorem dX3_cheapestDeal_128 : decode cX3_cheapestDeal 128 = .ok (.invokevirtual 245, 3) := by decide +kernel
theorem dX3_cheapestDeal_131 : decode cX3_cheapestDeal 131 = .ok (.lreturn, 1) := by decide +kernel
theorem dX3_offerDeals_0 : decode cX3_offerDeals 0 = .ok (.iload_n 1, 1) := by decide +kernel
theorem dX3_offerDeals_1 : decode cX3_offerDeals 1 = .ok (.istore 5, 2) := by decide +kernel
theorem dX3_offerDeals_3 : decode cX3_offerDeals 3 = .ok (.iload 5, 2) := by decide +kernel
theorem dX3_offerDeals_5 : decode cX3_offerDeals 5 = .ok (.ifCond .lt 72, 3) := by decide +kernel
theorem dX3_offerDeals_8 : decode cX3_offerDeals 8 = .ok (.aload_n 0, 1) := by decide +kernel
theorem dX3_offerDeals_9 : decode cX3_offerDeals 9 = .ok (.getfield 25, 3) := by decide +kernel
theorem dX3_offerDeals_12 : decode cX3_offerDeals 12 = .ok (.iload 5, 2) := by decide +kernel
theorem dX3_offerDeals_14 : decode cX3_offerDeals 14 = .ok (.laload, 1) := by decide +kernel
theorem dX3_offerDeals_15 : decode cX3_offerDeals 15 = .ok (.lconst 0, 1) := by decide +kernel
theorem dX3_offerDeals_16 : decode cX3_offerDeals 16 = .ok (.lcmp, 1) := by decide +kernel
theorem dX3_offerDeals_17 : decode cX3_offerDeals 17 = .ok (.ifCond .lt 54, 3) := by decide +kernel
theorem dX3_offerDeals_20 : decode cX3_offerDeals 20 = .ok (.aload_n 0, 1) := by decide +kernel
theorem dX3_offerDeals_21 : decode cX3_offerDeals 21 = .ok (.getfield 25, 3) := by decide +kernel
theorem dX3_offerDeals_24 : decode cX3_offerDeals 24 = .ok (.iload 5, 2) := by decide +kernel
theorem dX3_offerDeals_26 : decode cX3_offerDeals 26 = .ok (.laload, 1) := by decide +kernel
theorem dX3_offerDeals_27 : decode cX3_offerDeals 27 = .ok (.lload_n 3, 1) := by decide +kernel
theorem dX3_offerDeals_28 : decode cX3_offerDeals 28 = .ok (.ladd, 1) := by decide +kernel
theorem dX3_offerDeals_29 : decode cX3_offerDeals 29 = .ok (.lstore 6, 2) := by decide +kernel
theorem dX3_offerDeals_31 : decode cX3_offerDeals 31 = .ok (.aload_n 0, 1) := by decide +kernel
theorem dX3_offerDeals_32 : decode cX3_offerDeals 32 = .ok (.getfield 25, 3) := by decide +kernel
theorem dX3_offerDeals_35 : decode cX3_offerDeals 35 = .ok (.iload 5, 2) := by decide +kernel
theorem dX3_offerDeals_37 : decode cX3_offerDeals 37 = .ok (.iload_n 2, 1) := by decide +kernel
theorem dX3_offerDeals_38 : decode cX3_offerDeals 38 = .ok (.iadd, 1) := by decide +kernel
theorem dX3_offerDeals_39 : decode cX3_offerDeals 39 = .ok (.laload, 1) := by decide +kernel
theorem dX3_offerDeals_40 : decode cX3_offerDeals 40 = .ok (.lconst 0, 1) := by decide +kernel
theorem dX3_offerDeals_41 : decode cX3_offerDeals 41 = .ok (.lcmp, 1) := by decide +kernel
theorem dX3_offerDeals_42 : decode cX3_offerDeals 42 = .ok (.ifCond .lt 18, 3) := by decide +kernel
theorem dX3_offerDeals_45 : decode cX3_offerDeals 45 = .ok (.lload 6, 2) := by decide +kernel
theorem dX3_offerDeals_47 : decode cX3_offerDeals 47 = .ok (.aload_n 0, 1) := by decide +kernel
theorem dX3_offerDeals_48 : decode cX3_offerDeals 48 = .ok (.getfield 25, 3) := by decide +kernel
theorem dX3_offerDeals_51 : decode cX3_offerDeals 51 = .ok (.iload 5, 2) := by decide +kernel
theorem dX3_offerDeals_53 : decode cX3_offerDeals 53 = .ok (.iload_n 2, 1) := by decide +kernel
theorem dX3_offerDeals_54 : decode cX3_offerDeals 54 = .ok (.iadd, 1) := by decide +kernel
theorem dX3_offerDeals_55 : decode cX3_offerDeals 55 = .ok (.laload, 1) := by decide +kernel
theorem dX3_offerDeals_56 : decode cX3_offerDeals 56 = .ok (.lcmp, 1) := by decide +kernel
theorem dX3_offerDeals_57 : decode cX3_offerDeals 57 = .ok (.ifCond .ge 14, 3) := by decide +kernel
theorem dX3_offerDeals_60 : decode cX3_offerDeals 60 = .ok (.aload_n 0, 1) := by decide +kernel
theorem dX3_offerDeals_61 : decode cX3_offerDeals 61 = .ok (.getfield 25, 3) := by decide +kernel
theorem dX3_offerDeals_64 : decode cX3_offerDeals 64 = .ok (.iload 5, 2) := by decide +kernel
theorem dX3_offerDeals_66 : decode cX3_offerDeals 66 = .ok (.iload_n 2, 1) := by decide +kernel
theorem dX3_offerDeals_67 : decode cX3_offerDeals 67 = .ok (.iadd, 1) := by decide +kernel
theorem dX3_offerDeals_68 : decode cX3_offerDeals 68 = .ok (.lload 6, 2) := by decide +kernel
theorem dX3_offerDeals_70 : decode cX3_offerDeals 70 = .ok (.lastore, 1) := by decide +kernel
theorem dX3_offerDeals_71 : decode cX3_offerDeals 71 = .ok (.iinc 5 (-1), 3) := by decide +kernel
theorem dX3_offerDeals_74 : decode cX3_offerDeals 74 = .ok (.goto (-71), 3) := by decide +kernel
theorem dX3_offerDeals_77 : decode cX3_offerDeals 77 = .ok (.return_, 1) := by decide +kernel
theorem dX3_leastDeal_0 : decode cX3_leastDeal 0 = .ok (.ldc2_w 236, 3) := by decide +kernel
theorem dX3_leastDeal_3 : decode cX3_leastDeal 3 = .ok (.lstore_n 3, 1) := by decide +kernel
theorem dX3_leastDeal_4 : decode cX3_leastDeal 4 = .ok (.iload_n 1, 1) := by decide +kernel
theorem dX3_leastDeal_5 : decode cX3_leastDeal 5 = .ok (.istore 5, 2) := by decide +kernel
theorem dX3_leastDeal_7 : decode cX3_leastDeal 7 = .ok (.iload 5, 2) := by decide +kernel
theorem dX3_leastDeal_9 : decode cX3_leastDeal 9 = .ok (.iload_n 2, 1) := by decide +kernel
theorem dX3_leastDeal_10 : decode cX3_leastDeal 10 = .ok (.if_icmp .gt 46, 3) := by decide +kernel
theorem dX3_leastDeal_13 : decode cX3_leastDeal 13 = .ok (.aload_n 0, 1) := by decide +kernel
theorem dX3_leastDeal_14 : decode cX3_leastDeal 14 = .ok (.getfield 25, 3) := by decide +kernel
theorem dX3_leastDeal_17 : decode cX3_leastDeal 17 = .ok (.iload 5, 2) := by decide +kernel
theorem dX3_leastDeal_19 : decode cX3_leastDeal 19 = .ok (.laload, 1) := by decide +kernel
theorem dX3_leastDeal_20 : decode cX3_leastDeal 20 = .ok (.lstore 6, 2) := by decide +kernel
theorem dX3_leastDeal_22 : decode cX3_leastDeal 22 = .ok (.lload 6, 2) := by decide +kernel
theorem dX3_leastDeal_24 : decode cX3_leastDeal 24 = .ok (.lconst 0, 1) := by decide +kernel
theorem dX3_leastDeal_25 : decode cX3_leastDeal 25 = .ok (.lcmp, 1) := by decide +kernel
theorem dX3_leastDeal_26 : decode cX3_leastDeal 26 = .ok (.ifCond .lt 24, 3) := by decide +kernel
theorem dX3_leastDeal_29 : decode cX3_leastDeal 29 = .ok (.lload_n 3, 1) := by decide +kernel
theorem dX3_leastDeal_30 : decode cX3_leastDeal 30 = .ok (.lconst 0, 1) := by decide +kernel
theorem dX3_leastDeal_31 : decode cX3_leastDeal 31 = .ok (.lcmp, 1) := by decide +kernel
theorem dX3_leastDeal_32 : decode cX3_leastDeal 32 = .ok (.ifCond .lt 15, 3) := by decide +kernel
theorem dX3_leastDeal_35 : decode cX3_leastDeal 35 = .ok (.lload 6, 2) := by decide +kernel
theorem dX3_leastDeal_37 : decode cX3_leastDeal 37 = .ok (.invokestatic 143, 3) := by decide +kernel
theorem dX3_leastDeal_40 : decode cX3_leastDeal 40 = .ok (.lload_n 3, 1) := by decide +kernel
theorem dX3_leastDeal_41 : decode cX3_leastDeal 41 = .ok (.invokestatic 143, 3) := by decide +kernel
theorem dX3_leastDeal_44 : decode cX3_leastDeal 44 = .ok (.if_icmp .ge 6, 3) := by decide +kernel
theorem dX3_leastDeal_47 : decode cX3_leastDeal 47 = .ok (.lload 6, 2) := by decide +kernel
theorem dX3_leastDeal_49 : decode cX3_leastDeal 49 = .ok (.lstore_n 3, 1) := by decide +kernel
theorem dX3_leastDeal_50 : decode cX3_leastDeal 50 = .ok (.iinc 5 1, 3) := by decide +kernel
theorem dX3_leastDeal_53 : decode cX3_leastDeal 53 = .ok (.goto (-46), 3) := by decide +kernel
theorem dX3_leastDeal_56 : decode cX3_leastDeal 56 = .ok (.lload_n 3, 1) := by decide +kernel
theorem dX3_leastDeal_57 : decode cX3_leastDeal 57 = .ok (.lreturn, 1) := by decide +kernel
theorem dX3_coinOfDeal_0 : decode cX3_coinOfDeal 0 = .ok (.lload_n 0, 1) := by decide +kernel
theorem dX3_coinOfDeal_1 : decode cX3_coinOfDeal 1 = .ok (.bipush 20, 2) := by decide +kernel
theorem dX3_coinOfDeal_3 : decode cX3_coinOfDeal 3 = .ok (.lshr, 1) := by decide +kernel
theorem dX3_coinOfDeal_4 : decode cX3_coinOfDeal 4 = .ok (.l2i, 1) := by decide +kernel
theorem dX3_coinOfDeal_5 : decode cX3_coinOfDeal 5 = .ok (.ireturn, 1) := by decide +kernel
theorem dX3_lowestBidders_0 : decode cX3_lowestBidders 0 = .ok (.iconst 0, 1) := by decide +kernel
theorem dX3_lowestBidders_1 : decode cX3_lowestBidders 1 = .ok (.istore_n 3, 1) := by decide +kernel
theorem dX3_lowestBidders_2 : decode cX3_lowestBidders 2 = .ok (.iconst 0, 1) := by decide +kernel
theorem dX3_lowestBidders_3 : decode cX3_lowestBidders 3 = .ok (.istore 4, 2) := by decide +kernel
theorem dX3_lowestBidders_5 : decode cX3_lowestBidders 5 = .ok (.iconst 0, 1) := by decide +kernel
theorem dX3_lowestBidders_6 : decode cX3_lowestBidders 6 = .ok (.istore 5, 2) := by decide +kernel
theorem dX3_lowestBidders_8 : decode cX3_lowestBidders 8 = .ok (.iload 5, 2) := by decide +kernel
theorem dX3_lowestBidders_10 : decode cX3_lowestBidders 10 = .ok (.aload_n 0, 1) := by decide +kernel
theorem dX3_lowestBidders_11 : decode cX3_lowestBidders 11 = .ok (.getfield 40, 3) := by decide +kernel
theorem dX3_lowestBidders_14 : decode cX3_lowestBidders 14 = .ok (.if_icmp .ge 53, 3) := by decide +kernel
theorem dX3_lowestBidders_17 : decode cX3_lowestBidders 17 = .ok (.iload 4, 2) := by decide +kernel
theorem dX3_lowestBidders_19 : decode cX3_lowestBidders 19 = .ok (.iload_n 2, 1) := by decide +kernel
theorem dX3_lowestBidders_20 : decode cX3_lowestBidders 20 = .ok (.if_icmp .ge 47, 3) := by decide +kernel
theorem dX3_lowestBidders_23 : decode cX3_lowestBidders 23 = .ok (.aload_n 0, 1) := by decide +kernel
theorem dX3_lowestBidders_24 : decode cX3_lowestBidders 24 = .ok (.aload_n 1, 1) := by decide +kernel
theorem dX3_lowestBidders_25 : decode cX3_lowestBidders 25 = .ok (.iload_n 3, 1) := by decide +kernel
theorem dX3_lowestBidders_26 : decode cX3_lowestBidders 26 = .ok (.invokevirtual 249, 3) := by decide +kernel
theorem dX3_lowestBidders_29 : decode cX3_lowestBidders 29 = .ok (.istore 6, 2) := by decide +kernel
theorem dX3_lowestBidders_31 : decode cX3_lowestBidders 31 = .ok (.iload 6, 2) := by decide +kernel
theorem dX3_lowestBidders_33 : decode cX3_lowestBidders 33 = .ok (.iconst (-1), 1) := by decide +kernel
theorem dX3_lowestBidders_34 : decode cX3_lowestBidders 34 = .ok (.if_icmp .ne 5, 3) := by decide +kernel
theorem dX3_lowestBidders_37 : decode cX3_lowestBidders 37 = .ok (.iconst 0, 1) := by decide +kernel
theorem dX3_lowestBidders_38 : decode cX3_lowestBidders 38 = .ok (.ireturn, 1) := by decide +kernel
theorem dX3_lowestBidders_39 : decode cX3_lowestBidders 39 = .ok (.iload_n 3, 1) := by decide +kernel
theorem dX3_lowestBidders_40 : decode cX3_lowestBidders 40 = .ok (.iconst 1, 1) := by decide +kernel
theorem dX3_lowestBidders_41 : decode cX3_lowestBidders 41 = .ok (.iload 6, 2) := by decide +kernel
theorem dX3_lowestBidders_43 : decode cX3_lowestBidders 43 = .ok (.ishl, 1) := by decide +kernel
theorem dX3_lowestBidders_44 : decode cX3_lowestBidders 44 = .ok (.ior, 1) := by decide +kernel
theorem dX3_lowestBidders_45 : decode cX3_lowestBidders 45 = .ok (.istore_n 3, 1) := by decide +kernel
theorem dX3_lowestBidders_46 : decode cX3_lowestBidders 46 = .ok (.iload 4, 2) := by decide +kernel
theorem dX3_lowestBidders_48 : decode cX3_lowestBidders 48 = .ok (.aload_n 0, 1) := by decide +kernel
theorem dX3_lowestBidders_49 : decode cX3_lowestBidders 49 = .ok (.getfield 17, 3) := by decide +kernel
theorem dX3_lowestBidders_52 : decode cX3_lowestBidders 52 = .ok (.iload 6, 2) := by decide +kernel
theorem dX3_lowestBidders_54 : decode cX3_lowestBidders 54 = .ok (.aaload, 1) := by decide +kernel
theorem dX3_lowestBidders_55 : decode cX3_lowestBidders 55 = .ok (.getfield 102, 3) := by decide +kernel
theorem dX3_lowestBidders_58 : decode cX3_lowestBidders 58 = .ok (.iadd, 1) := by decide +kernel
theorem dX3_lowestBidders_59 : decode cX3_lowestBidders 59 = .ok (.istore 4, 2) := by decide +kernel
theorem dX3_lowestBidders_61 : decode cX3_lowestBidders 61 = .ok (.iinc 5 1, 3) := by decide +kernel
theorem dX3_lowestBidders_64 : decode cX3_lowestBidders 64 = .ok (.goto (-56), 3) := by decide +kernel
theorem dX3_lowestBidders_67 : decode cX3_lowestBidders 67 = .ok (.iload 4, 2) := by decide +kernel
theorem dX3_lowestBidders_69 : decode cX3_lowestBidders 69 = .ok (.iload_n 2, 1) := by decide +kernel
theorem dX3_lowestBidders_70 : decode cX3_lowestBidders 70 = .ok (.if_icmp .ge 7, 3) := by decide +kernel
theorem dX3_lowestBidders_73 : decode cX3_lowestBidders 73 = .ok (.iconst 0, 1) := by decide +kernel
theorem dX3_lowestBidders_74 : decode cX3_lowestBidders 74 = .ok (.goto 4, 3) := by decide +kernel
theorem dX3_lowestBidders_77 : decode cX3_lowestBidders 77 = .ok (.iload_n 3, 1) := by decide +kernel
theorem dX3_lowestBidders_78 : decode cX3_lowestBidders 78 = .ok (.ireturn, 1) := by decide +kernel
theorem dX3_nextBidder_0 : decode cX3_nextBidder 0 = .ok (.iconst (-1), 1) := by decide +kernel
theorem dX3_nextBidder_1 : decode cX3_nextBidder 1 = .ok (.istore_n 3, 1) := by decide +kernel
theorem dX3_nextBidder_2 : decode cX3_nextBidder 2 = .ok (.iconst 0, 1) := by decide +kernel
theorem dX3_nextBidder_3 : decode cX3_nextBidder 3 = .ok (.istore 4, 2) := by decide +kernel
theorem dX3_nextBidder_5 : decode cX3_nextBidder 5 = .ok (.iload 4, 2) := by decide +kernel
theorem dX3_nextBidder_7 : decode cX3_nextBidder 7 = .ok (.aload_n 0, 1) := by decide +kernel
theorem dX3_nextBidder_8 : decode cX3_nextBidder 8 = .ok (.getfield 40, 3) := by decide +kernel
theorem dX3_nextBidder_11 : decode cX3_nextBidder 11 = .ok (.if_icmp .ge 63, 3) := by decide +kernel
theorem dX3_nextBidder_14 : decode cX3_nextBidder 14 = .ok (.iload_n 2, 1) := by decide +kernel
theorem dX3_nextBidder_15 : decode cX3_nextBidder 15 = .ok (.i2l, 1) := by decide +kernel
theorem dX3_nextBidder_16 : decode cX3_nextBidder 16 = .ok (.iload 4, 2) := by decide +kernel
theorem dX3_nextBidder_18 : decode cX3_nextBidder 18 = .ok (.invokestatic 147, 3) := by decide +kernel
theorem dX3_nextBidder_21 : decode cX3_nextBidder 21 = .ok (.ifCond .ne 47, 3) := by decide +kernel
theorem dX3_nextBidder_24 : decode cX3_nextBidder 24 = .ok (.aload_n 0, 1) := by decide +kernel
theorem dX3_nextBidder_25 : decode cX3_nextBidder 25 = .ok (.getfield 17, 3) := by decide +kernel
theorem dX3_nextBidder_28 : decode cX3_nextBidder 28 = .ok (.iload 4, 2) := by decide +kernel
theorem dX3_nextBidder_30 : decode cX3_nextBidder 30 = .ok (.aaload, 1) := by decide +kernel
theorem dX3_nextBidder_31 : decode cX3_nextBidder 31 = .ok (.aload_n 1, 1) := by decide +kernel
theorem dX3_nextBidder_32 : decode cX3_nextBidder 32 = .ok (.invokevirtual 238, 3) := by decide +kernel
theorem dX3_nextBidder_35 : decode cX3_nextBidder 35 = .ok (.ifCond .eq 33, 3) := by decide +kernel
theorem dX3_nextBidder_38 : decode cX3_nextBidder 38 = .ok (.iload_n 3, 1) := by decide +kernel
theorem dX3_nextBidder_39 : decode cX3_nextBidder 39 = .ok (.iconst (-1), 1) := by decide +kernel
theorem dX3_nextBidder_40 : decode cX3_nextBidder 40 = .ok (.if_icmp .eq 25, 3) := by decide +kernel
theorem dX3_nextBidder_43 : decode cX3_nextBidder 43 = .ok (.aload_n 0, 1) := by decide +kernel
theorem dX3_nextBidder_44 : decode cX3_nextBidder 44 = .ok (.getfield 17, 3) := by decide +kernel
theorem dX3_nextBidder_47 : decode cX3_nextBidder 47 = .ok (.iload 4, 2) := by decide +kernel
theorem dX3_nextBidder_49 : decode cX3_nextBidder 49 = .ok (.aaload, 1) := by decide +kernel
theorem dX3_nextBidder_50 : decode cX3_nextBidder 50 = .ok (.getfield 151, 3) := by decide +kernel
theorem dX3_nextBidder_53 : decode cX3_nextBidder 53 = .ok (.aload_n 0, 1) := by decide +kernel
theorem dX3_nextBidder_54 : decode cX3_nextBidder 54 = .ok (.getfield 17, 3) := by decide +kernel
theorem dX3_nextBidder_57 : decode cX3_nextBidder 57 = .ok (.iload_n 3, 1) := by decide +kernel
theorem dX3_nextBidder_58 : decode cX3_nextBidder 58 = .ok (.aaload, 1) := by decide +kernel
theorem dX3_nextBidder_59 : decode cX3_nextBidder 59 = .ok (.getfield 151, 3) := by decide +kernel
theorem dX3_nextBidder_62 : decode cX3_nextBidder 62 = .ok (.if_icmp .ge 6, 3) := by decide +kernel
theorem dX3_nextBidder_65 : decode cX3_nextBidder 65 = .ok (.iload 4, 2) := by decide +kernel
theorem dX3_nextBidder_67 : decode cX3_nextBidder 67 = .ok (.istore_n 3, 1) := by decide +kernel
theorem dX3_nextBidder_68 : decode cX3_nextBidder 68 = .ok (.iinc 4 1, 3) := by decide +kernel
theorem dX3_nextBidder_71 : decode cX3_nextBidder 71 = .ok (.goto (-66), 3) := by decide +kernel
theorem dX3_nextBidder_74 : decode cX3_nextBidder 74 = .ok (.iload_n 3, 1) := by decide +kernel
theorem dX3_nextBidder_75 : decode cX3_nextBidder 75 = .ok (.ireturn, 1) := by decide +kernel
theorem dX3_highestBid_0 : decode cX3_highestBid 0 = .ok (.iconst 0, 1) := by decide +kernel
theorem dX3_highestBid_1 : decode cX3_highestBid 1 = .ok (.istore_n 2, 1) := by decide +kernel
theorem dX3_highestBid_2 : decode cX3_highestBid 2 = .ok (.iconst 0, 1) := by decide +kernel
theorem dX3_highestBid_3 : decode cX3_highestBid 3 = .ok (.istore_n 3, 1) := by decide +kernel
theorem dX3_highestBid_4 : decode cX3_highestBid 4 = .ok (.iload_n 3, 1) := by decide +kernel
theorem dX3_highestBid_5 : decode cX3_highestBid 5 = .ok (.aload_n 0, 1) := by decide +kernel
theorem dX3_highestBid_6 : decode cX3_highestBid 6 = .ok (.getfield 40, 3) := by decide +kernel
theorem dX3_highestBid_9 : decode cX3_highestBid 9 = .ok (.if_icmp .ge 32, 3) := by decide +kernel
theorem dX3_highestBid_12 : decode cX3_highestBid 12 = .ok (.iload_n 1, 1) := by decide +kernel
theorem dX3_highestBid_13 : decode cX3_highestBid 13 = .ok (.i2l, 1) := by decide +kernel
theorem dX3_highestBid_14 : decode cX3_highestBid 14 = .ok (.iload_n 3, 1) := by decide +kernel
theorem dX3_highestBid_15 : decode cX3_highestBid 15 = .ok (.invokestatic 147, 3) := by decide +kernel
theorem dX3_highestBid_18 : decode cX3_highestBid 18 = .ok (.ifCond .eq 17, 3) := by decide +kernel
theorem dX3_highestBid_21 : decode cX3_highestBid 21 = .ok (.iload_n 2, 1) := by decide +kernel
theorem dX3_highestBid_22 : decode cX3_highestBid 22 = .ok (.aload_n 0, 1) := by decide +kernel
theorem dX3_highestBid_23 : decode cX3_highestBid 23 = .ok (.getfield 17, 3) := by decide +kernel
theorem dX3_highestBid_26 : decode cX3_highestBid 26 = .ok (.iload_n 3, 1) := by decide +kernel
theorem dX3_highestBid_27 : decode cX3_highestBid 27 = .ok (.aaload, 1) := by decide +kernel
theorem dX3_highestBid_28 : decode cX3_highestBid 28 = .ok (.getfield 151, 3) := by decide +kernel
theorem dX3_highestBid_31 : decode cX3_highestBid 31 = .ok (.invokestatic 221, 3) := by decide +kernel
theorem dX3_highestBid_34 : decode cX3_highestBid 34 = .ok (.istore_n 2, 1) := by decide +kernel
theorem dX3_highestBid_35 : decode cX3_highestBid 35 = .ok (.iinc 3 1, 3) := by decide +kernel
theorem dX3_highestBid_38 : decode cX3_highestBid 38 = .ok (.goto (-34), 3) := by decide +kernel
theorem dX3_highestBid_41 : decode cX3_highestBid 41 = .ok (.iload_n 2, 1) := by decide +kernel
theorem dX3_highestBid_42 : decode cX3_highestBid 42 = .ok (.ireturn, 1) := by decide +kernel
theorem dX3_firstOffer_0 : decode cX3_firstOffer 0 = .ok (.iload_n 0, 1) := by decide +kernel
theorem dX3_firstOffer_1 : decode cX3_firstOffer 1 = .ok (.iload_n 1, 1) := by decide +kernel
theorem dX3_firstOffer_2 : decode cX3_firstOffer 2 = .ok (.if_icmp .le 8, 3) := by decide +kernel
theorem dX3_firstOffer_5 : decode cX3_firstOffer 5 = .ok (.iload_n 2, 1) := by decide +kernel
theorem dX3_firstOffer_6 : decode cX3_firstOffer 6 = .ok (.iconst 1, 1) := by decide +kernel
theorem dX3_firstOffer_7 : decode cX3_firstOffer 7 = .ok (.if_icmp .ge 5, 3) := by decide +kernel
theorem dX3_firstOffer_10 : decode cX3_firstOffer 10 = .ok (.iload_n 1, 1) := by decide +kernel
theorem dX3_firstOffer_11 : decode cX3_firstOffer 11 = .ok (.ireturn, 1) := by decide +kernel
theorem dX3_firstOffer_12 : decode cX3_firstOffer 12 = .ok (.iload_n 0, 1) := by decide +kernel
theorem dX3_firstOffer_13 : decode cX3_firstOffer 13 = .ok (.iload_n 1, 1) := by decide +kernel
theorem dX3_firstOffer_14 : decode cX3_firstOffer 14 = .ok (.isub, 1) := by decide +kernel
theorem dX3_firstOffer_15 : decode cX3_firstOffer 15 = .ok (.iload_n 2, 1) := by decide +kernel
theorem dX3_firstOffer_16 : decode cX3_firstOffer 16 = .ok (.iadd, 1) := by decide +kernel
theorem dX3_firstOffer_17 : decode cX3_firstOffer 17 = .ok (.iconst 1, 1) := by decide +kernel
theorem dX3_firstOffer_18 : decode cX3_firstOffer 18 = .ok (.isub, 1) := by decide +kernel
theorem dX3_firstOffer_19 : decode cX3_firstOffer 19 = .ok (.iload_n 2, 1) := by decide +kernel
theorem dX3_firstOffer_20 : decode cX3_firstOffer 20 = .ok (.idiv, 1) := by decide +kernel
theorem dX3_firstOffer_21 : decode cX3_firstOffer 21 = .ok (.istore_n 3, 1) := by decide +kernel
theorem dX3_firstOffer_22 : decode cX3_firstOffer 22 = .ok (.iload_n 1, 1) := by decide +kernel
theorem dX3_firstOffer_23 : decode cX3_firstOffer 23 = .ok (.iload_n 3, 1) := by decide +kernel
theorem dX3_firstOffer_24 : decode cX3_firstOffer 24 = .ok (.iload_n 2, 1) := by decide +kernel
theorem dX3_firstOffer_25 : decode cX3_firstOffer 25 = .ok (.imul, 1) := by decide +kernel
theorem dX3_firstOffer_26 : decode cX3_firstOffer 26 = .ok (.iadd, 1) := by decide +kernel
theorem dX3_firstOffer_27 : decode cX3_firstOffer 27 = .ok (.ireturn, 1) := by decide +kernel
theorem dX3_leavablePeople_0 : decode cX3_leavablePeople 0 = .ok (.iconst 0, 1) := by decide +kernel
theorem dX3_leavablePeople_1 : decode cX3_leavablePeople 1 = .ok (.istore_n 2, 1) := by decide +kernel
theorem dX3_leavablePeople_2 : decode cX3_leavablePeople 2 = .ok (.iconst 0, 1) := by decide +kernel
theorem dX3_leavablePeople_3 : decode cX3_leavablePeople 3 = .ok (.istore_n 3, 1) := by decide +kernel
theorem dX3_leavablePeople_4 : decode cX3_leavablePeople 4 = .ok (.iload_n 3, 1) := by decide +kernel
theorem dX3_leavablePeople_5 : decode cX3_leavablePeople 5 = .ok (.aload_n 0, 1) := by decide +kernel
theorem dX3_leavablePeople_6 : decode cX3_leavablePeople 6 = .ok (.getfield 40, 3) := by decide +kernel
theorem dX3_leavablePeople_9 : decode cX3_leavablePeople 9 = .ok (.if_icmp .ge 46, 3) := by decide +kernel
theorem dX3_leavablePeople_12 : decode cX3_leavablePeople 12 = .ok (.aload_n 0, 1) := by decide +kernel
theorem dX3_leavablePeople_13 : decode cX3_leavablePeople 13 = .ok (.getfield 17, 3) := by decide +kernel
theorem dX3_leavablePeople_16 : decode cX3_leavablePeople 16 = .ok (.iload_n 3, 1) := by decide +kernel
theorem dX3_leavablePeople_17 : decode cX3_leavablePeople 17 = .ok (.aaload, 1) := by decide +kernel
theorem dX3_leavablePeople_18 : decode cX3_leavablePeople 18 = .ok (.getfield 227, 3) := by decide +kernel
theorem dX3_leavablePeople_21 : decode cX3_leavablePeople 21 = .ok (.ifCond .ne 28, 3) := by decide +kernel
theorem dX3_leavablePeople_24 : decode cX3_leavablePeople 24 = .ok (.aload_n 0, 1) := by decide +kernel
theorem dX3_leavablePeople_25 : decode cX3_leavablePeople 25 = .ok (.getfield 17, 3) := by decide +kernel
theorem dX3_leavablePeople_28 : decode cX3_leavablePeople 28 = .ok (.iload_n 3, 1) := by decide +kernel
theorem dX3_leavablePeople_29 : decode cX3_leavablePeople 29 = .ok (.aaload, 1) := by decide +kernel
theorem dX3_leavablePeople_30 : decode cX3_leavablePeople 30 = .ok (.aload_n 1, 1) := by decide +kernel
theorem dX3_leavablePeople_31 : decode cX3_leavablePeople 31 = .ok (.invokevirtual 218, 3) := by decide +kernel
theorem dX3_leavablePeople_34 : decode cX3_leavablePeople 34 = .ok (.ifCond .eq 15, 3) := by decide +kernel
theorem dX3_leavablePeople_37 : decode cX3_leavablePeople 37 = .ok (.iload_n 2, 1) := by decide +kernel
theorem dX3_leavablePeople_38 : decode cX3_leavablePeople 38 = .ok (.aload_n 0, 1) := by decide +kernel
theorem dX3_leavablePeople_39 : decode cX3_leavablePeople 39 = .ok (.getfield 17, 3) := by decide +kernel
theorem dX3_leavablePeople_42 : decode cX3_leavablePeople 42 = .ok (.iload_n 3, 1) := by decide +kernel
theorem dX3_leavablePeople_43 : decode cX3_leavablePeople 43 = .ok (.aaload, 1) := by decide +kernel
theorem dX3_leavablePeople_44 : decode cX3_leavablePeople 44 = .ok (.getfield 102, 3) := by decide +kernel
theorem dX3_leavablePeople_47 : decode cX3_leavablePeople 47 = .ok (.iadd, 1) := by decide +kernel
theorem dX3_leavablePeople_48 : decode cX3_leavablePeople 48 = .ok (.istore_n 2, 1) := by decide +kernel
theorem dX3_leavablePeople_49 : decode cX3_leavablePeople 49 = .ok (.iinc 3 1, 3) := by decide +kernel
theorem dX3_leavablePeople_52 : decode cX3_leavablePeople 52 = .ok (.goto (-48), 3) := by decide +kernel
theorem dX3_leavablePeople_55 : decode cX3_leavablePeople 55 = .ok (.iload_n 2, 1) := by decide +kernel
theorem dX3_leavablePeople_56 : decode cX3_leavablePeople 56 = .ok (.ireturn, 1) := by decide +kernel
theorem dX3_nextToLeave_0 : decode cX3_nextToLeave 0 = .ok (.aconst_null, 1) := by decide +kernel
theorem dX3_nextToLeave_1 : decode cX3_nextToLeave 1 = .ok (.astore_n 2, 1) := by decide +kernel
theorem dX3_nextToLeave_2 : decode cX3_nextToLeave 2 = .ok (.aload_n 0, 1) := by decide +kernel
theorem dX3_nextToLeave_3 : decode cX3_nextToLeave 3 = .ok (.getfield 40, 3) := by decide +kernel
theorem dX3_nextToLeave_6 : decode cX3_nextToLeave 6 = .ok (.iconst 1, 1) := by decide +kernel
theorem dX3_nextToLeave_7 : decode cX3_nextToLeave 7 = .ok (.isub, 1) := by decide +kernel
theorem dX3_nextToLeave_8 : decode cX3_nextToLeave 8 = .ok (.istore_n 3, 1) := by decide +kernel
theorem dX3_nextToLeave_9 : decode cX3_nextToLeave 9 = .ok (.iload_n 3, 1) := by decide +kernel
theorem dX3_nextToLeave_10 : decode cX3_nextToLeave 10 = .ok (.ifCond .lt 53, 3) := by decide +kernel
theorem dX3_nextToLeave_13 : decode cX3_nextToLeave 13 = .ok (.aload_n 0, 1) := by decide +kernel
theorem dX3_nextToLeave_14 : decode cX3_nextToLeave 14 = .ok (.getfield 17, 3) := by decide +kernel
theorem dX3_nextToLeave_17 : decode cX3_nextToLeave 17 = .ok (.iload_n 3, 1) := by decide +kernel
theorem dX3_nextToLeave_18 : decode cX3_nextToLeave 18 = .ok (.aaload, 1) := by decide +kernel
theorem dX3_nextToLeave_19 : decode cX3_nextToLeave 19 = .ok (.astore 4, 2) := by decide +kernel
theorem dX3_nextToLeave_21 : decode cX3_nextToLeave 21 = .ok (.aload 4, 2) := by decide +kernel
theorem dX3_nextToLeave_23 : decode cX3_nextToLeave 23 = .ok (.getfield 227, 3) := by decide +kernel
theorem dX3_nextToLeave_26 : decode cX3_nextToLeave 26 = .ok (.ifCond .ne 31, 3) := by decide +kernel
theorem dX3_nextToLeave_29 : decode cX3_nextToLeave 29 = .ok (.aload 4, 2) := by decide +kernel
theorem dX3_nextToLeave_31 : decode cX3_nextToLeave 31 = .ok (.aload_n 1, 1) := by decide +kernel
theorem dX3_nextToLeave_32 : decode cX3_nextToLeave 32 = .ok (.invokevirtual 218, 3) := by decide +kernel
theorem dX3_nextToLeave_35 : decode cX3_nextToLeave 35 = .ok (.ifCond .eq 22, 3) := by decide +kernel
theorem dX3_nextToLeave_38 : decode cX3_nextToLeave 38 = .ok (.aload_n 2, 1) := by decide +kernel
theorem dX3_nextToLeave_39 : decode cX3_nextToLeave 39 = .ok (.ifnull 15, 3) := by decide +kernel
theorem dX3_nextToLeave_42 : decode cX3_nextToLeave 42 = .ok (.aload 4, 2) := by decide +kernel
theorem dX3_nextToLeave_44 : decode cX3_nextToLeave 44 = .ok (.getfield 252, 3) := by decide +kernel
theorem dX3_nextToLeave_47 : decode cX3_nextToLeave 47 = .ok (.aload_n 2, 1) := by decide +kernel
theorem dX3_nextToLeave_48 : decode cX3_nextToLeave 48 = .ok (.getfield 252, 3) := by decide +kernel
theorem dX3_nextToLeave_51 : decode cX3_nextToLeave 51 = .ok (.if_icmp .ge 6, 3) := by decide +kernel
theorem dX3_nextToLeave_54 : decode cX3_nextToLeave 54 = .ok (.aload 4, 2) := by decide +kernel
theorem dX3_nextToLeave_56 : decode cX3_nextToLeave 56 = .ok (.astore_n 2, 1) := by decide +kernel
theorem dX3_nextToLeave_57 : decode cX3_nextToLeave 57 = .ok (.iinc 3 (-1), 3) := by decide +kernel
theorem dX3_nextToLeave_60 : decode cX3_nextToLeave 60 = .ok (.goto (-51), 3) := by decide +kernel
theorem dX3_nextToLeave_63 : decode cX3_nextToLeave 63 = .ok (.aload_n 2, 1) := by decide +kernel
theorem dX3_nextToLeave_64 : decode cX3_nextToLeave 64 = .ok (.areturn, 1) := by decide +kernel
theorem dX3_isWay_0 : decode cX3_isWay 0 = .ok (.aload_n 1, 1) := by decide +kernel
theorem dX3_isWay_1 : decode cX3_isWay 1 = .ok (.getfield 95, 3) := by decide +kernel
theorem dX3_isWay_4 : decode cX3_isWay 4 = .ok (.astore 4, 2) := by decide +kernel
theorem dX3_isWay_6 : decode cX3_isWay 6 = .ok (.aload_n 2, 1) := by decide +kernel
theorem dX3_isWay_7 : decode cX3_isWay 7 = .ok (.aload 4, 2) := by decide +kernel
theorem dX3_isWay_9 : decode cX3_isWay 9 = .ok (.if_acmp .eq 34, 3) := by decide +kernel
theorem dX3_isWay_12 : decode cX3_isWay 12 = .ok (.aload_n 2, 1) := by decide +kernel
theorem dX3_isWay_13 : decode cX3_isWay 13 = .ok (.getfield 57, 3) := by decide +kernel
theorem dX3_isWay_16 : decode cX3_isWay 16 = .ok (.ifCond .ne 27, 3) := by decide +kernel
theorem dX3_isWay_19 : decode cX3_isWay 19 = .ok (.aload_n 2, 1) := by decide +kernel
theorem dX3_isWay_20 : decode cX3_isWay 20 = .ok (.getfield 255, 3) := by decide +kernel
theorem dX3_isWay_23 : decode cX3_isWay 23 = .ok (.aload 4, 2) := by decide +kernel
theorem dX3_isWay_25 : decode cX3_isWay 25 = .ok (.getfield 255, 3) := by decide +kernel
theorem dX3_isWay_28 : decode cX3_isWay 28 = .ok (.if_icmp .ne 15, 3) := by decide +kernel
theorem dX3_isWay_31 : decode cX3_isWay 31 = .ok (.aload_n 2, 1) := by decide +kernel
theorem dX3_isWay_32 : decode cX3_isWay 32 = .ok (.getfield 258, 3) := by decide +kernel
theorem dX3_isWay_35 : decode cX3_isWay 35 = .ok (.aload 4, 2) := by decide +kernel
theorem dX3_isWay_37 : decode cX3_isWay 37 = .ok (.getfield 258, 3) := by decide +kernel
theorem dX3_isWay_40 : decode cX3_isWay 40 = .ok (.if_icmp .ge 5, 3) := by decide +kernel
theorem dX3_isWay_43 : decode cX3_isWay 43 = .ok (.iconst 0, 1) := by decide +kernel
theorem dX3_isWay_44 : decode cX3_isWay 44 = .ok (.ireturn, 1) := by decide +kernel
theorem dX3_isWay_45 : decode cX3_isWay 45 = .ok (.aload_n 3, 1) := by decide +kernel
theorem dX3_isWay_46 : decode cX3_isWay 46 = .ok (.ifnonnull 21, 3) := by decide +kernel
theorem dX3_isWay_49 : decode cX3_isWay 49 = .ok (.aload_n 2, 1) := by decide +kernel
theorem dX3_isWay_50 : decode cX3_isWay 50 = .ok (.getfield 261, 3) := by decide +kernel
theorem dX3_isWay_53 : decode cX3_isWay 53 = .ok (.aload 4, 2) := by decide +kernel
theorem dX3_isWay_55 : decode cX3_isWay 55 = .ok (.getfield 261, 3) := by decide +kernel
theorem dX3_isWay_58 : decode cX3_isWay 58 = .ok (.if_icmp .ne 7, 3) := by decide +kernel
theorem dX3_isWay_61 : decode cX3_isWay 61 = .ok (.iconst 1, 1) := by decide +kernel
theorem dX3_isWay_62 : decode cX3_isWay 62 = .ok (.goto 4, 3) := by decide +kernel
theorem dX3_isWay_65 : decode cX3_isWay 65 = .ok (.iconst 0, 1) := by decide +kernel
theorem dX3_isWay_66 : decode cX3_isWay 66 = .ok (.ireturn, 1) := by decide +kernel
theorem dX3_isWay_67 : decode cX3_isWay 67 = .ok (.aload_n 3, 1) := by decide +kernel
theorem dX3_isWay_68 : decode cX3_isWay 68 = .ok (.getfield 57, 3) := by decide +kernel
theorem dX3_isWay_71 : decode cX3_isWay 71 = .ok (.ifCond .ne 46, 3) := by decide +kernel
theorem dX3_isWay_74 : decode cX3_isWay 74 = .ok (.aload_n 3, 1) := by decide +kernel
theorem dX3_isWay_75 : decode cX3_isWay 75 = .ok (.getfield 255, 3) := by decide +kernel
theorem dX3_isWay_78 : decode cX3_isWay 78 = .ok (.aload_n 2, 1) := by decide +kernel
theorem dX3_isWay_79 : decode cX3_isWay 79 = .ok (.getfield 261, 3) := by decide +kernel
theorem dX3_isWay_82 : decode cX3_isWay 82 = .ok (.if_icmp .ne 35, 3) := by decide +kernel
theorem dX3_isWay_85 : decode cX3_isWay 85 = .ok (.aload_n 3, 1) := by decide +kernel
theorem dX3_isWay_86 : decode cX3_isWay 86 = .ok (.getfield 261, 3) := by decide +kernel
theorem dX3_isWay_89 : decode cX3_isWay 89 = .ok (.aload 4, 2) := by decide +kernel
theorem dX3_isWay_91 : decode cX3_isWay 91 = .ok (.getfield 261, 3) := by decide +kernel
theorem dX3_isWay_94 : decode cX3_isWay 94 = .ok (.if_icmp .ne 23, 3) := by decide +kernel
theorem dX3_isWay_97 : decode cX3_isWay 97 = .ok (.aload_n 3, 1) := by decide +kernel
theorem dX3_isWay_98 : decode cX3_isWay 98 = .ok (.getfield 258, 3) := by decide +kernel
theorem dX3_isWay_101 : decode cX3_isWay 101 = .ok (.aload_n 2, 1) := by decide +kernel
theorem dX3_isWay_102 : decode cX3_isWay 102 = .ok (.getfield 264, 3) := by decide +kernel
theorem dX3_isWay_105 : decode cX3_isWay 105 = .ok (.isub, 1) := by decide +kernel
theorem dX3_isWay_106 : decode cX3_isWay 106 = .ok (.aload_n 0, 1) := by decide +kernel
theorem dX3_isWay_107 : decode cX3_isWay 107 = .ok (.getfield 43, 3) := by decide +kernel
theorem dX3_isWay_110 : decode cX3_isWay 110 = .ok (.if_icmp .lt 7, 3) := by decide +kernel
theorem dX3_isWay_113 : decode cX3_isWay 113 = .ok (.iconst 1, 1) := by decide +kernel
theorem dX3_isWay_114 : decode cX3_isWay 114 = .ok (.goto 4, 3) := by decide +kernel
theorem dX3_isWay_117 : decode cX3_isWay 117 = .ok (.iconst 0, 1) := by decide +kernel
theorem dX3_isWay_118 : decode cX3_isWay 118 = .ok (.ireturn, 1) := by decide +kernel
theorem dX3_addStranded_0 : decode cX3_addStranded 0 = .ok (.iconst 0, 1) := by decide +kernel
theorem dX3_addStranded_1 : decode cX3_addStranded 1 = .ok (.istore_n 2, 1) := by decide +kernel
theorem dX3_addStranded_2 : decode cX3_addStranded 2 = .ok (.iconst 0, 1) := by decide +kernel
theorem dX3_addStranded_3 : decode cX3_addStranded 3 = .ok (.istore_n 3, 1) := by decide +kernel
theorem dX3_addStranded_4 : decode cX3_addStranded 4 = .ok (.iload_n 3, 1) := by decide +kernel
theorem dX3_addStranded_5 : decode cX3_addStranded 5 = .ok (.aload_n 0, 1) := by decide +kernel
theorem dX3_addStranded_6 : decode cX3_addStranded 6 = .ok (.getfield 40, 3) := by decide +kernel
theorem dX3_addStranded_9 : decode cX3_addStranded 9 = .ok (.if_icmp .ge 61, 3) := by decide +kernel
theorem dX3_addStranded_12 : decode cX3_addStranded 12 = .ok (.aload_n 0, 1) := by decide +kernel
theorem dX3_addStranded_13 : decode cX3_addStranded 13 = .ok (.getfield 17, 3) := by decide +kernel
theorem dX3_addStranded_16 : decode cX3_addStranded 16 = .ok (.iload_n 3, 1) := by decide +kernel
theorem dX3_addStranded_17 : decode cX3_addStranded 17 = .ok (.aaload, 1) := by decide +kernel
theorem dX3_addStranded_18 : decode cX3_addStranded 18 = .ok (.invokevirtual 187, 3) := by decide +kernel
theorem dX3_addStranded_21 : decode cX3_addStranded 21 = .ok (.ifCond .eq 43, 3) := by decide +kernel
theorem dX3_addStranded_24 : decode cX3_addStranded 24 = .ok (.aload_n 0, 1) := by decide +kernel
theorem dX3_addStranded_25 : decode cX3_addStranded 25 = .ok (.getfield 17, 3) := by decide +kernel
theorem dX3_addStranded_28 : decode cX3_addStranded 28 = .ok (.iload_n 3, 1) := by decide +kernel
theorem dX3_addStranded_29 : decode cX3_addStranded 29 = .ok (.aaload, 1) := by decide +kernel
theorem dX3_addStranded_30 : decode cX3_addStranded 30 = .ok (.getfield 102, 3) := by decide +kernel
theorem dX3_addStranded_33 : decode cX3_addStranded 33 = .ok (.iload_n 1, 1) := by decide +kernel
theorem dX3_addStranded_34 : decode cX3_addStranded 34 = .ok (.if_icmp .ne 27, 3) := by decide +kernel
theorem dX3_addStranded_37 : decode cX3_addStranded 37 = .ok (.aload_n 0, 1) := by decide +kernel
theorem dX3_addStranded_38 : decode cX3_addStranded 38 = .ok (.getfield 32, 3) := by decide +kernel
theorem dX3_addStranded_41 : decode cX3_addStranded 41 = .ok (.aload_n 0, 1) := by decide +kernel
theorem dX3_addStranded_42 : decode cX3_addStranded 42 = .ok (.getfield 17, 3) := by decide +kernel
theorem dX3_addStranded_45 : decode cX3_addStranded 45 = .ok (.iload_n 3, 1) := by decide +kernel
theorem dX3_addStranded_46 : decode cX3_addStranded 46 = .ok (.aaload, 1) := by decide +kernel
theorem dX3_addStranded_47 : decode cX3_addStranded 47 = .ok (.iload_n 2, 1) := by decide +kernel
theorem dX3_addStranded_48 : decode cX3_addStranded 48 = .ok (.invokevirtual 267, 3) := by decide +kernel
theorem dX3_addStranded_51 : decode cX3_addStranded 51 = .ok (.aload_n 0, 1) := by decide +kernel
theorem dX3_addStranded_52 : decode cX3_addStranded 52 = .ok (.aload_n 0, 1) := by decide +kernel
theorem dX3_addStranded_53 : decode cX3_addStranded 53 = .ok (.getfield 17, 3) := by decide +kernel
theorem dX3_addStranded_56 : decode cX3_addStranded 56 = .ok (.iload_n 3, 1) := by decide +kernel
theorem dX3_addStranded_57 : decode cX3_addStranded 57 = .ok (.aaload, 1) := by decide +kernel
theorem dX3_addStranded_58 : decode cX3_addStranded 58 = .ok (.invokevirtual 271, 3) := by decide +kernel
theorem dX3_addStranded_61 : decode cX3_addStranded 61 = .ok (.iinc 2 1, 3) := by decide +kernel
theorem dX3_addStranded_64 : decode cX3_addStranded 64 = .ok (.iinc 3 1, 3) := by decide +kernel
theorem dX3_addStranded_67 : decode cX3_addStranded 67 = .ok (.goto (-63), 3) := by decide +kernel
theorem dX3_addStranded_70 : decode cX3_addStranded 70 = .ok (.return_, 1) := by decide +kernel
theorem dX3_addWays_0 : decode cX3_addWays 0 = .ok (.iconst 0, 1) := by decide +kernel
theorem dX3_addWays_1 : decode cX3_addWays 1 = .ok (.istore_n 2, 1) := by decide +kernel
theorem dX3_addWays_2 : decode cX3_addWays 2 = .ok (.iload_n 2, 1) := by decide +kernel
theorem dX3_addWays_3 : decode cX3_addWays 3 = .ok (.aload_n 0, 1) := by decide +kernel
theorem dX3_addWays_4 : decode cX3_addWays 4 = .ok (.getfield 36, 3) := by decide +kernel
theorem dX3_addWays_7 : decode cX3_addWays 7 = .ok (.if_icmp .ge 93, 3) := by decide +kernel
theorem dX3_addWays_10 : decode cX3_addWays 10 = .ok (.aload_n 0, 1) := by decide +kernel
theorem dX3_addWays_11 : decode cX3_addWays 11 = .ok (.aload_n 1, 1) := by decide +kernel
theorem dX3_addWays_12 : decode cX3_addWays 12 = .ok (.aload_n 0, 1) := by decide +kernel
theorem dX3_addWays_13 : decode cX3_addWays 13 = .ok (.getfield 11, 3) := by decide +kernel
theorem dX3_addWays_16 : decode cX3_addWays 16 = .ok (.iload_n 2, 1) := by decide +kernel
theorem dX3_addWays_17 : decode cX3_addWays 17 = .ok (.aaload, 1) := by decide +kernel
theorem dX3_addWays_18 : decode cX3_addWays 18 = .ok (.aconst_null, 1) := by decide +kernel
theorem dX3_addWays_19 : decode cX3_addWays 19 = .ok (.invokevirtual 179, 3) := by decide +kernel
theorem dX3_addWays_22 : decode cX3_addWays 22 = .ok (.ifCond .eq 17, 3) := by decide +kernel
theorem dX3_addWays_25 : decode cX3_addWays 25 = .ok (.aload_n 0, 1) := by decide +kernel
theorem dX3_addWays_26 : decode cX3_addWays 26 = .ok (.getfield 32, 3) := by decide +kernel
theorem dX3_addWays_29 : decode cX3_addWays 29 = .ok (.aload_n 0, 1) := by decide +kernel
theorem dX3_addWays_30 : decode cX3_addWays 30 = .ok (.getfield 11, 3) := by decide +kernel
theorem dX3_addWays_33 : decode cX3_addWays 33 = .ok (.iload_n 2, 1) := by decide +kernel
theorem dX3_addWays_34 : decode cX3_addWays 34 = .ok (.aaload, 1) := by decide +kernel
theorem dX3_addWays_35 : decode cX3_addWays 35 = .ok (.aconst_null, 1) := by decide +kernel
theorem dX3_addWays_36 : decode cX3_addWays 36 = .ok (.invokevirtual 275, 3) := by decide +kernel
theorem dX3_addWays_39 : decode cX3_addWays 39 = .ok (.iconst 0, 1) := by decide +kernel
theorem dX3_addWays_40 : decode cX3_addWays 40 = .ok (.istore_n 3, 1) := by decide +kernel
theorem dX3_addWays_41 : decode cX3_addWays 41 = .ok (.iload_n 3, 1) := by decide +kernel
theorem dX3_addWays_42 : decode cX3_addWays 42 = .ok (.aload_n 0, 1) := by decide +kernel
theorem dX3_addWays_43 : decode cX3_addWays 43 = .ok (.getfield 36, 3) := by decide +kernel
theorem dX3_addWays_46 : decode cX3_addWays 46 = .ok (.if_icmp .ge 48, 3) := by decide +kernel
theorem dX3_addWays_49 : decode cX3_addWays 49 = .ok (.aload_n 0, 1) := by decide +kernel
theorem dX3_addWays_50 : decode cX3_addWays 50 = .ok (.aload_n 1, 1) := by decide +kernel
theorem dX3_addWays_51 : decode cX3_addWays 51 = .ok (.aload_n 0, 1) := by decide +kernel
theorem dX3_addWays_52 : decode cX3_addWays 52 = .ok (.getfield 11, 3) := by decide +kernel
theorem dX3_addWays_55 : decode cX3_addWays 55 = .ok (.iload_n 2, 1) := by decide +kernel
theorem dX3_addWays_56 : decode cX3_addWays 56 = .ok (.aaload, 1) := by decide +kernel
theorem dX3_addWays_57 : decode cX3_addWays 57 = .ok (.aload_n 0, 1) := by decide +kernel
theorem dX3_addWays_58 : decode cX3_addWays 58 = .ok (.getfield 11, 3) := by decide +kernel
theorem dX3_addWays_61 : decode cX3_addWays 61 = .ok (.iload_n 3, 1) := by decide +kernel
theorem dX3_addWays_62 : decode cX3_addWays 62 = .ok (.aaload, 1) := by decide +kernel
theorem dX3_addWays_63 : decode cX3_addWays 63 = .ok (.invokevirtual 179, 3) := by decide +kernel
theorem dX3_addWays_66 : decode cX3_addWays 66 = .ok (.ifCond .eq 22, 3) := by decide +kernel
theorem dX3_addWays_69 : decode cX3_addWays 69 = .ok (.aload_n 0, 1) := by decide +kernel
theorem dX3_addWays_70 : decode cX3_addWays 70 = .ok (.getfield 32, 3) := by decide +kernel
theorem dX3_addWays_73 : decode cX3_addWays 73 = .ok (.aload_n 0, 1) := by decide +kernel
theorem dX3_addWays_74 : decode cX3_addWays 74 = .ok (.getfield 11, 3) := by decide +kernel
theorem dX3_addWays_77 : decode cX3_addWays 77 = .ok (.iload_n 2, 1) := by decide +kernel
theorem dX3_addWays_78 : decode cX3_addWays 78 = .ok (.aaload, 1) := by decide +kernel
theorem dX3_addWays_79 : decode cX3_addWays 79 = .ok (.aload_n 0, 1) := by decide +kernel
theorem dX3_addWays_80 : decode cX3_addWays 80 = .ok (.getfield 11, 3) := by decide +kernel
theorem dX3_addWays_83 : decode cX3_addWays 83 = .ok (.iload_n 3, 1) := by decide +kernel
theorem dX3_addWays_84 : decode cX3_addWays 84 = .ok (.aaload, 1) := by decide +kernel
theorem dX3_addWays_85 : decode cX3_addWays 85 = .ok (.invokevirtual 275, 3) := by decide +kernel
theorem dX3_addWays_88 : decode cX3_addWays 88 = .ok (.iinc 3 1, 3) := by decide +kernel
theorem dX3_addWays_91 : decode cX3_addWays 91 = .ok (.goto (-50), 3) := by decide +kernel
theorem dX3_addWays_94 : decode cX3_addWays 94 = .ok (.iinc 2 1, 3) := by decide +kernel
theorem dX3_addWays_97 : decode cX3_addWays 97 = .ok (.goto (-95), 3) := by decide +kernel
theorem dX3_addWays_100 : decode cX3_addWays 100 = .ok (.return_, 1) := by decide +kernel
end
section
theorem dX4_init_0 : decode cX4_init 0 = .ok (.aload_n 0, 1) := by decide +kernel
theorem dX4_init_1 : decode cX4_init 1 = .ok (.invokespecial 1, 3) := by decide +kernel
theorem dX4_init_4 : decode cX4_init 4 = .ok (.aload_n 0, 1) := by decide +kernel
theorem dX4_init_5 : decode cX4_init 5 = .ok (.bipush 56, 2) := by decide +kernel
theorem dX4_init_7 : decode cX4_init 7 = .ok (.newarray .int, 2) := by decide +kernel
theorem dX4_init_9 : decode cX4_init 9 = .ok (.putfield 9, 3) := by decide +kernel
theorem dX4_init_12 : decode cX4_init 12 = .ok (.aload_n 0, 1) := by decide +kernel
theorem dX4_init_13 : decode cX4_init 13 = .ok (.sipush 180, 3) := by decide +kernel
theorem dX4_init_16 : decode cX4_init 16 = .ok (.newarray .int, 2) := by decide +kernel
theorem dX4_init_18 : decode cX4_init 18 = .ok (.putfield 13, 3) := by decide +kernel
theorem dX4_init_21 : decode cX4_init 21 = .ok (.aload_n 0, 1) := by decide +kernel
theorem dX4_init_22 : decode cX4_init 22 = .ok (.iconst 4, 1) := by decide +kernel
theorem dX4_init_23 : decode cX4_init 23 = .ok (.newarray .int, 2) := by decide +kernel
theorem dX4_init_25 : decode cX4_init 25 = .ok (.dup, 1) := by decide +kernel
theorem dX4_init_26 : decode cX4_init 26 = .ok (.iconst 0, 1) := by decide +kernel
theorem dX4_init_27 : decode cX4_init 27 = .ok (.bipush 45, 2) := by decide +kernel
theorem dX4_init_29 : decode cX4_init 29 = .ok (.iastore, 1) := by decide +kernel
theorem dX4_init_30 : decode cX4_init 30 = .ok (.dup, 1) := by decide +kernel
theorem dX4_init_31 : decode cX4_init 31 = .ok (.iconst 1, 1) := by decide +kernel
theorem dX4_init_32 : decode cX4_init 32 = .ok (.sipush 250, 3) := by decide +kernel
theorem dX4_init_35 : decode cX4_init 35 = .ok (.iastore, 1) := by decide +kernel
theorem dX4_init_36 : decode cX4_init 36 = .ok (.dup, 1) := by decide +kernel
theorem dX4_init_37 : decode cX4_init 37 = .ok (.iconst 2, 1) := by decide +kernel
theorem dX4_init_38 : decode cX4_init 38 = .ok (.sipush 400, 3) := by decide +kernel
theorem dX4_init_41 : decode cX4_init 41 = .ok (.iastore, 1) := by decide +kernel
theorem dX4_init_42 : decode cX4_init 42 = .ok (.dup, 1) := by decide +kernel
theorem dX4_init_43 : decode cX4_init 43 = .ok (.iconst 3, 1) := by decide +kernel
theorem dX4_init_44 : decode cX4_init 44 = .ok (.sipush 600, 3) := by decide +kernel
theorem dX4_init_47 : decode cX4_init 47 = .ok (.iastore, 1) := by decide +kernel
theorem dX4_init_48 : decode cX4_init 48 = .ok (.putfield 16, 3) := by decide +kernel
theorem dX4_init_51 : decode cX4_init 51 = .ok (.aload_n 0, 1) := by decide +kernel
theorem dX4_init_52 : decode cX4_init 52 = .ok (.bipush 121, 2) := by decide +kernel
theorem dX4_init_54 : decode cX4_init 54 = .ok (.newarray .int, 2) := by decide +kernel
theorem dX4_init_56 : decode cX4_init 56 = .ok (.putfield 19, 3) := by decide +kernel
theorem dX4_init_59 : decode cX4_init 59 = .ok (.aload_n 0, 1) := by decide +kernel
theorem dX4_init_60 : decode cX4_init 60 = .ok (.bipush 121, 2) := by decide +kernel
theorem dX4_init_62 : decode cX4_init 62 = .ok (.newarray .int, 2) := by decide +kernel
theorem dX4_init_64 : decode cX4_init 64 = .ok (.putfield 22, 3) := by decide +kernel
theorem dX4_init_67 : decode cX4_init 67 = .ok (.aload_n 0, 1) := by decide +kernel
theorem dX4_init_68 : decode cX4_init 68 = .ok (.bipush 6, 2) := by decide +kernel
theorem dX4_init_70 : decode cX4_init 70 = .ok (.newarray .int, 2) := by decide +kernel
theorem dX4_init_72 : decode cX4_init 72 = .ok (.putfield 25, 3) := by decide +kernel
theorem dX4_init_75 : decode cX4_init 75 = .ok (.aload_n 0, 1) := by decide +kernel
theorem dX4_init_76 : decode cX4_init 76 = .ok (.sipush 432, 3) := by decide +kernel
theorem dX4_init_79 : decode cX4_init 79 = .ok (.newarray .int, 2) := by decide +kernel
theorem dX4_init_81 : decode cX4_init 81 = .ok (.putfield 28, 3) := by decide +kernel
theorem dX4_init_84 : decode cX4_init 84 = .ok (.aload_n 0, 1) := by decide +kernel
theorem dX4_init_85 : decode cX4_init 85 = .ok (.sipush 432, 3) := by decide +kernel
theorem dX4_init_88 : decode cX4_init 88 = .ok (.newarray .int, 2) := by decide +kernel
theorem dX4_init_90 : decode cX4_init 90 = .ok (.putfield 31, 3) := by decide +kernel
theorem dX4_init_93 : decode cX4_init 93 = .ok (.aload_n 0, 1) := by decide +kernel
theorem dX4_init_94 : decode cX4_init 94 = .ok (.bipush 6, 2) := by decide +kernel
theorem dX4_init_96 : decode cX4_init 96 = .ok (.newarray .int, 2) := by decide +kernel
theorem dX4_init_98 : decode cX4_init 98 = .ok (.putfield 34, 3) := by decide +kernel
theorem dX4_init_101 : decode cX4_init 101 = .ok (.aload_n 0, 1) := by decide +kernel
theorem dX4_init_102 : decode cX4_init 102 = .ok (.bipush 6, 2) := by decide +kernel
theorem dX4_init_104 : decode cX4_init 104 = .ok (.newarray .int, 2) := by decide +kernel
theorem dX4_init_106 : decode cX4_init 106 = .ok (.putfield 37, 3) := by decide +kernel
theorem dX4_init_109 : decode cX4_init 109 = .ok (.aload_n 0, 1) := by decide +kernel
theorem dX4_init_110 : decode cX4_init 110 = .ok (.bipush 8, 2) := by decide +kernel
theorem dX4_init_112 : decode cX4_init 112 = .ok (.newarray .int, 2) := by decide +kernel
theorem dX4_init_114 : decode cX4_init 114 = .ok (.putfield 40, 3) := by decide +kernel
theorem dX4_init_117 : decode cX4_init 117 = .ok (.aload_n 0, 1) := by decide +kernel
theorem dX4_init_118 : decode cX4_init 118 = .ok (.bipush 8, 2) := by decide +kernel
theorem dX4_init_120 : decode cX4_init 120 = .ok (.newarray .int, 2) := by decide +kernel
theorem dX4_init_122 : decode cX4_init 122 = .ok (.putfield 43, 3) := by decide +kernel
theorem dX4_init_125 : decode cX4_init 125 = .ok (.aload_n 0, 1) := by decide +kernel
theorem dX4_init_126 : decode cX4_init 126 = .ok (.bipush 6, 2) := by decide +kernel
theorem dX4_init_128 : decode cX4_init 128 = .ok (.newarray .int, 2) := by decide +kernel
theorem dX4_init_130 : decode cX4_init 130 = .ok (.putfield 46, 3) := by decide +kernel
theorem dX4_init_133 : decode cX4_init 133 = .ok (.aload_n 0, 1) := by decide +kernel
theorem dX4_init_134 : decode cX4_init 134 = .ok (.bipush 6, 2) := by decide +kernel
theorem dX4_init_136 : decode cX4_init 136 = .ok (.newarray .int, 2) := by decide +kernel
theorem dX4_init_138 : decode cX4_init 138 = .ok (.putfield 49, 3) := by decide +kernel
theorem dX4_init_141 : decode cX4_init 141 = .ok (.return_, 1) := by decide +kernel
theorem dX4_thrown_0 : decode cX4_thrown 0 = .ok (.aload_n 0, 1) := by decide +kernel
theorem dX4_thrown_1 : decode cX4_thrown 1 = .ok (.getfield 52, 3) := by decide +kernel
theorem dX4_thrown_4 : decode cX4_thrown 4 = .ok (.ireturn, 1) := by decide +kernel
theorem dX4_in_0 : decode cX4_in 0 = .ok (.iload_n 0, 1) := by decide +kernel
theorem dX4_in_1 : decode cX4_in 1 = .ok (.iload_n 1, 1) := by decide +kernel
theorem dX4_in_2 : decode cX4_in 2 = .ok (.if_icmp .lt 12, 3) := by decide +kernel
theorem dX4_in_5 : decode cX4_in 5 = .ok (.iload_n 0, 1) := by decide +kernel
theorem dX4_in_6 : decode cX4_in 6 = .ok (.iload_n 2, 1) := by decide +kernel
theorem dX4_in_7 : decode cX4_in 7 = .ok (.if_icmp .gt 7, 3) := by decide +kernel
theorem dX4_in_10 : decode cX4_in 10 = .ok (.iconst 1, 1) := by decide +kernel
theorem dX4_in_11 : decode cX4_in 11 = .ok (.goto 4, 3) := by decide +kernel
theorem dX4_in_14 : decode cX4_in 14 = .ok (.iconst 0, 1) := by decide +kernel
theorem dX4_in_15 : decode cX4_in 15 = .ok (.ireturn, 1) := by decide +kernel
theorem dX4_isFlight_0 : decode cX4_isFlight 0 = .ok (.iload_n 1, 1) := by decide +kernel
theorem dX4_isFlight_1 : decode cX4_isFlight 1 = .ok (.iconst 0, 1) := by decide +kernel
theorem dX4_isFlight_2 : decode cX4_isFlight 2 = .ok (.aload_n 0, 1) := by decide +kernel
theorem dX4_isFlight_3 : decode cX4_isFlight 3 = .ok (.getfield 56, 3) := by decide +kernel
theorem dX4_isFlight_6 : decode cX4_isFlight 6 = .ok (.iconst 1, 1) := by decide +kernel
theorem dX4_isFlight_7 : decode cX4_isFlight 7 = .ok (.isub, 1) := by decide +kernel
theorem dX4_isFlight_8 : decode cX4_isFlight 8 = .ok (.invokestatic 59, 3) := by decide +kernel
theorem dX4_isFlight_11 : decode cX4_isFlight 11 = .ok (.ireturn, 1) := by decide +kernel
theorem dX4_isParty_0 : decode cX4_isParty 0 = .ok (.iload_n 1, 1) := by decide +kernel
theorem dX4_isParty_1 : decode cX4_isParty 1 = .ok (.iconst 0, 1) := by decide +kernel
theorem dX4_isParty_2 : decode cX4_isParty 2 = .ok (.aload_n 0, 1) := by decide +kernel
theorem dX4_isParty_3 : decode cX4_isParty 3 = .ok (.getfield 63, 3) := by decide +kernel
theorem dX4_isParty_6 : decode cX4_isParty 6 = .ok (.iconst 1, 1) := by decide +kernel
theorem dX4_isParty_7 : decode cX4_isParty 7 = .ok (.isub, 1) := by decide +kernel
theorem dX4_isParty_8 : decode cX4_isParty 8 = .ok (.invokestatic 59, 3) := by decide +kernel
theorem dX4_isParty_11 : decode cX4_isParty 11 = .ok (.ireturn, 1) := by decide +kernel
theorem dX4_get_0 : decode cX4_get 0 = .ok (.aload_n 0, 1) := by decide +kernel
theorem dX4_get_1 : decode cX4_get 1 = .ok (.getfield 13, 3) := by decide +kernel
theorem dX4_get_4 : decode cX4_get 4 = .ok (.bipush 9, 2) := by decide +kernel
theorem dX4_get_6 : decode cX4_get 6 = .ok (.iload_n 1, 1) := by decide +kernel
theorem dX4_get_7 : decode cX4_get 7 = .ok (.imul, 1) := by decide +kernel
theorem dX4_get_8 : decode cX4_get 8 = .ok (.iload_n 2, 1) := by decide +kernel
theorem dX4_get_9 : decode cX4_get 9 = .ok (.iadd, 1) := by decide +kernel
theorem dX4_get_10 : decode cX4_get 10 = .ok (.iaload, 1) := by decide +kernel
theorem dX4_get_11 : decode cX4_get 11 = .ok (.ireturn, 1) := by decide +kernel
theorem dX4_put_0 : decode cX4_put 0 = .ok (.aload_n 0, 1) := by decide +kernel
theorem dX4_put_1 : decode cX4_put 1 = .ok (.getfield 13, 3) := by decide +kernel
theorem dX4_put_4 : decode cX4_put 4 = .ok (.bipush 9, 2) := by decide +kernel
theorem dX4_put_6 : decode cX4_put 6 = .ok (.iload_n 1, 1) := by decide +kernel
theorem dX4_put_7 : decode cX4_put 7 = .ok (.imul, 1) := by decide +kernel
theorem dX4_put_8 : decode cX4_put 8 = .ok (.iload_n 2, 1) := by decide +kernel
theorem dX4_put_9 : decode cX4_put 9 = .ok (.iadd, 1) := by decide +kernel
theorem dX4_put_10 : decode cX4_put 10 = .ok (.iload_n 3, 1) := by decide +kernel
theorem dX4_put_11 : decode cX4_put 11 = .ok (.iastore, 1) := by decide +kernel
theorem dX4_put_12 : decode cX4_put 12 = .ok (.return_, 1) := by decide +kernel
theorem dX4_of7_0 : decode cX4_of7 0 = .ok (.aload_n 0, 1) := by decide +kernel
theorem dX4_of7_1 : decode cX4_of7 1 = .ok (.getfield 9, 3) := by decide +kernel
theorem dX4_of7_4 : decode cX4_of7 4 = .ok (.bipush 7, 2) := by decide +kernel
theorem dX4_of7_6 : decode cX4_of7 6 = .ok (.iload_n 1, 1) := by decide +kernel
theorem dX4_of7_7 : decode cX4_of7 7 = .ok (.imul, 1) := by decide +kernel
theorem dX4_of7_8 : decode cX4_of7 8 = .ok (.iload_n 2, 1) := by decide +kernel
theorem dX4_of7_9 : decode cX4_of7 9 = .ok (.iadd, 1) := by decide +kernel
theorem dX4_of7_10 : decode cX4_of7 10 = .ok (.iaload, 1) := by decide +kernel
theorem dX4_of7_11 : decode cX4_of7 11 = .ok (.ireturn, 1) := by decide +kernel
theorem dX4_flight_0 : decode cX4_flight 0 = .ok (.aload_n 0, 1) := by decide +kernel
theorem dX4_flight_1 : decode cX4_flight 1 = .ok (.iconst 0, 1) := by decide +kernel
theorem dX4_flight_2 : decode cX4_flight 2 = .ok (.putfield 52, 3) := by decide +kernel
theorem dX4_flight_5 : decode cX4_flight 5 = .ok (.iload_n 1, 1) := by decide +kernel
theorem dX4_flight_6 : decode cX4_flight 6 = .ok (.iconst 0, 1) := by decide +kernel
theorem dX4_flight_7 : decode cX4_flight 7 = .ok (.bipush 7, 2) := by decide +kernel
theorem dX4_flight_9 : decode cX4_flight 9 = .ok (.invokestatic 59, 3) := by decide +kernel
theorem dX4_flight_12 : decode cX4_flight 12 = .ok (.ifCond .eq 79, 3) := by decide +kernel
theorem dX4_flight_15 : decode cX4_flight 15 = .ok (.iload_n 2, 1) := by decide +kernel
theorem dX4_flight_16 : decode cX4_flight 16 = .ok (.iconst 0, 1) := by decide +kernel
theorem dX4_flight_17 : decode cX4_flight 17 = .ok (.bipush 7, 2) := by decide +kernel
theorem dX4_flight_19 : decode cX4_flight 19 = .ok (.invokestatic 59, 3) := by decide +kernel
theorem dX4_flight_22 : decode cX4_flight 22 = .ok (.ifCond .eq 69, 3) := by decide +kernel
theorem dX4_flight_25 : decode cX4_flight 25 = .ok (.iload_n 1, 1) := by decide +kernel
theorem dX4_flight_26 : decode cX4_flight 26 = .ok (.iload_n 2, 1) := by decide +kernel
theorem dX4_flight_27 : decode cX4_flight 27 = .ok (.if_icmp .eq 64, 3) := by decide +kernel
theorem dX4_flight_30 : decode cX4_flight 30 = .ok (.iload_n 3, 1) := by decide +kernel
theorem dX4_flight_31 : decode cX4_flight 31 = .ok (.iconst 0, 1) := by decide +kernel
theorem dX4_flight_32 : decode cX4_flight 32 = .ok (.sipush 9999, 3) := by decide +kernel
theorem dX4_flight_35 : decode cX4_flight 35 = .ok (.invokestatic 59, 3) := by decide +kernel
theorem dX4_flight_38 : decode cX4_flight 38 = .ok (.ifCond .eq 53, 3) := by decide +kernel
theorem dX4_flight_41 : decode cX4_flight 41 = .ok (.iload 4, 2) := by decide +kernel
theorem dX4_flight_43 : decode cX4_flight 43 = .ok (.iconst 0, 1) := by decide +kernel
theorem dX4_flight_44 : decode cX4_flight 44 = .ok (.sipush 9999, 3) := by decide +kernel
theorem dX4_flight_47 : decode cX4_flight 47 = .ok (.invokestatic 59, 3) := by decide +kernel
theorem dX4_flight_50 : decode cX4_flight 50 = .ok (.ifCond .eq 41, 3) := by decide +kernel
theorem dX4_flight_53 : decode cX4_flight 53 = .ok (.iload_n 3, 1) := by decide +kernel
theorem dX4_flight_54 : decode cX4_flight 54 = .ok (.iload 4, 2) := by decide +kernel
theorem dX4_flight_56 : decode cX4_flight 56 = .ok (.if_icmp .ge 35, 3) := by decide +kernel
theorem dX4_flight_59 : decode cX4_flight 59 = .ok (.iload 5, 2) := by decide +kernel
theorem dX4_flight_61 : decode cX4_flight 61 = .ok (.iconst 1, 1) := by decide +kernel
theorem dX4_flight_62 : decode cX4_flight 62 = .ok (.bipush 40, 2) := by decide +kernel
theorem dX4_flight_64 : decode cX4_flight 64 = .ok (.invokestatic 59, 3) := by decide +kernel
theorem dX4_flight_67 : decode cX4_flight 67 = .ok (.ifCond .eq 24, 3) := by decide +kernel
theorem dX4_flight_70 : decode cX4_flight 70 = .ok (.iload 6, 2) := by decide +kernel
theorem dX4_flight_72 : decode cX4_flight 72 = .ok (.iconst 1, 1) := by decide +kernel
theorem dX4_flight_73 : decode cX4_flight 73 = .ok (.sipush 9999, 3) := by decide +kernel
theorem dX4_flight_76 : decode cX4_flight 76 = .ok (.invokestatic 59, 3) := by decide +kernel
theorem dX4_flight_79 : decode cX4_flight 79 = .ok (.ifCond .eq 12, 3) := by decide +kernel
theorem dX4_flight_82 : decode cX4_flight 82 = .ok (.aload_n 0, 1) := by decide +kernel
theorem dX4_flight_83 : decode cX4_flight 83 = .ok (.getfield 56, 3) := by decide +kernel
theorem dX4_flight_86 : decode cX4_flight 86 = .ok (.bipush 8, 2) := by decide +kernel
theorem dX4_flight_88 : decode cX4_flight 88 = .ok (.if_icmp .ne 5, 3) := by decide +kernel
theorem dX4_flight_91 : decode cX4_flight 91 = .ok (.iconst (-1), 1) := by decide +kernel
theorem dX4_flight_92 : decode cX4_flight 92 = .ok (.ireturn, 1) := by decide +kernel
theorem dX4_flight_93 : decode cX4_flight 93 = .ok (.bipush 7, 2) := by decide +kernel
theorem dX4_flight_95 : decode cX4_flight 95 = .ok (.newarray .int, 2) := by decide +kernel
theorem dX4_flight_97 : decode cX4_flight 97 = .ok (.dup, 1) := by decide +kernel
theorem dX4_flight_98 : decode cX4_flight 98 = .ok (.iconst 0, 1) := by decide +kernel
theorem dX4_flight_99 : decode cX4_flight 99 = .ok (.iload_n 1, 1) := by decide +kernel
theorem dX4_flight_100 : decode cX4_flight 100 = .ok (.iastore, 1) := by decide +kernel
theorem dX4_flight_101 : decode cX4_flight 101 = .ok (.dup, 1) := by decide +kernel
theorem dX4_flight_102 : decode cX4_flight 102 = .ok (.iconst 1, 1) := by decide +kernel
theorem dX4_flight_103 : decode cX4_flight 103 = .ok (.iload_n 2, 1) := by decide +kernel
theorem dX4_flight_104 : decode cX4_flight 104 = .ok (.iastore, 1) := by decide +kernel
theorem dX4_flight_105 : decode cX4_flight 105 = .ok (.dup, 1) := by decide +kernel
theorem dX4_flight_106 : decode cX4_flight 106 = .ok (.iconst 2, 1) := by decide +kernel
theorem dX4_flight_107 : decode cX4_flight 107 = .ok (.iload_n 3, 1) := by decide +kernel
theorem dX4_flight_108 : decode cX4_flight 108 = .ok (.iastore, 1) := by decide +kernel
theorem dX4_flight_109 : decode cX4_flight 109 = .ok (.dup, 1) := by decide +kernel
theorem dX4_flight_110 : decode cX4_flight 110 = .ok (.iconst 3, 1) := by decide +kernel
theorem dX4_flight_111 : decode cX4_flight 111 = .ok (.iload 4, 2) := by decide +kernel
theorem dX4_flight_113 : decode cX4_flight 113 = .ok (.iastore, 1) := by decide +kernel
theorem dX4_flight_114 : decode cX4_flight 114 = .ok (.dup, 1) := by decide +kernel
theorem dX4_flight_115 : decode cX4_flight 115 = .ok (.iconst 4, 1) := by decide +kernel
theorem dX4_flight_116 : decode cX4_flight 116 = .ok (.iload 5, 2) := by decide +kernel
theorem dX4_flight_118 : decode cX4_flight 118 = .ok (.iastore, 1) := by decide +kernel
theorem dX4_flight_119 : decode cX4_flight 119 = .ok (.dup, 1) := by decide +kernel
theorem dX4_flight_120 : decode cX4_flight 120 = .ok (.iconst 5, 1) := by decide +kernel
theorem dX4_flight_121 : decode cX4_flight 121 = .ok (.iload 6, 2) := by decide +kernel
theorem dX4_flight_123 : decode cX4_flight 123 = .ok (.iastore, 1) := by decide +kernel
theorem dX4_flight_124 : decode cX4_flight 124 = .ok (.dup, 1) := by decide +kernel
theorem dX4_flight_125 : decode cX4_flight 125 = .ok (.bipush 6, 2) := by decide +kernel
theorem dX4_flight_127 : decode cX4_flight 127 = .ok (.iconst 0, 1) := by decide +kernel
theorem dX4_flight_128 : decode cX4_flight 128 = .ok (.iastore, 1) := by decide +kernel
theorem dX4_flight_129 : decode cX4_flight 129 = .ok (.astore 7, 2) := by decide +kernel
theorem dX4_flight_131 : decode cX4_flight 131 = .ok (.iconst 0, 1) := by decide +kernel
theorem dX4_flight_132 : decode cX4_flight 132 = .ok (.istore 8, 2) := by decide +kernel
theorem dX4_flight_134 : decode cX4_flight 134 = .ok (.iload 8, 2) := by decide +kernel
theorem dX4_flight_136 : decode cX4_flight 136 = .ok (.bipush 7, 2) := by decide +kernel
theorem dX4_flight_138 : decode cX4_flight 138 = .ok (.if_icmp .ge 29, 3) := by decide +kernel
theorem dX4_flight_141 : decode cX4_flight 141 = .ok (.aload_n 0, 1) := by decide +kernel
theorem dX4_flight_142 : decode cX4_flight 142 = .ok (.getfield 9, 3) := by decide +kernel
theorem dX4_flight_145 : decode cX4_flight 145 = .ok (.bipush 7, 2) := by decide +kernel
theorem dX4_flight_147 : decode cX4_flight 147 = .ok (.aload_n 0, 1) := by decide +kernel
theorem dX4_flight_148 : decode cX4_flight 148 = .ok (.getfield 56, 3) := by decide +kernel
theorem dX4_flight_151 : decode cX4_flight 151 = .ok (.imul, 1) := by decide +kernel
theorem dX4_flight_152 : decode cX4_flight 152 = .ok (.iload 8, 2) := by decide +kernel
theorem dX4_flight_154 : decode cX4_flight 154 = .ok (.iadd, 1) := by decide +kernel
theorem dX4_flight_155 : decode cX4_flight 155 = .ok (.aload 7, 2) := by decide +kernel
theorem dX4_flight_157 : decode cX4_flight 157 = .ok (.iload 8, 2) := by decide +kernel
theorem dX4_flight_159 : decode cX4_flight 159 = .ok (.iaload, 1) := by decide +kernel
theorem dX4_flight_160 : decode cX4_flight 160 = .ok (.iastore, 1) := by decide +kernel
theorem dX4_flight_161 : decode cX4_flight 161 = .ok (.iinc 8 1, 3) := by decide +kernel
theorem dX4_flight_164 : decode cX4_flight 164 = .ok (.goto (-30), 3) := by decide +kernel
theorem dX4_flight_167 : decode cX4_flight 167 = .ok (.aload_n 0, 1) := by decide +kernel
theorem dX4_flight_168 : decode cX4_flight 168 = .ok (.dup, 1) := by decide +kernel
theorem dX4_flight_169 : decode cX4_flight 169 = .ok (.getfield 56, 3) := by decide +kernel
theorem dX4_flight_172 : decode cX4_flight 172 = .ok (.iconst 1, 1) := by decide +kernel
theorem dX4_flight_173 : decode cX4_flight 173 = .ok (.iadd, 1) := by decide +kernel
theorem dX4_flight_174 : decode cX4_flight 174 = .ok (.putfield 56, 3) := by decide +kernel
theorem dX4_flight_177 : decode cX4_flight 177 = .ok (.aload_n 0, 1) := by decide +kernel
theorem dX4_flight_178 : decode cX4_flight 178 = .ok (.getfield 56, 3) := by decide +kernel
theorem dX4_flight_181 : decode cX4_flight 181 = .ok (.iconst 1, 1) := by decide +kernel
theorem dX4_flight_182 : decode cX4_flight 182 = .ok (.isub, 1) := by decide +kernel
theorem dX4_flight_183 : decode cX4_flight 183 = .ok (.ireturn, 1) := by decide +kernel
theorem dX4_off_0 : decode cX4_off 0 = .ok (.aload_n 0, 1) := by decide +kernel
theorem dX4_off_1 : decode cX4_off 1 = .ok (.iconst 0, 1) := by decide +kernel
theorem dX4_off_2 : decode cX4_off 2 = .ok (.putfield 52, 3) := by decide +kernel
theorem dX4_off_5 : decode cX4_off 5 = .ok (.aload_n 0, 1) := by decide +kernel
theorem dX4_off_6 : decode cX4_off 6 = .ok (.iload_n 1, 1) := by decide +kernel
theorem dX4_off_7 : decode cX4_off 7 = .ok (.invokevirtual 66, 3) := by decide +kernel
theorem dX4_off_10 : decode cX4_off 10 = .ok (.ifCond .ne 5, 3) := by decide +kernel
theorem dX4_off_13 : decode cX4_off 13 = .ok (.iconst 0, 1) := by decide +kernel
theorem dX4_off_14 : decode cX4_off 14 = .ok (.ireturn, 1) := by decide +kernel
theorem dX4_off_15 : decode cX4_off 15 = .ok (.aload_n 0, 1) := by decide +kernel
theorem dX4_off_16 : decode cX4_off 16 = .ok (.getfield 9, 3) := by decide +kernel
theorem dX4_off_19 : decode cX4_off 19 = .ok (.bipush 7, 2) := by decide +kernel
theorem dX4_off_21 : decode cX4_off 21 = .ok (.iload_n 1, 1) := by decide +kernel
theorem dX4_off_22 : decode cX4_off 22 = .ok (.imul, 1) := by decide +kernel
theorem dX4_off_23 : decode cX4_off 23 = .ok (.bipush 6, 2) := by decide +kernel
theorem dX4_off_25 : decode cX4_off 25 = .ok (.iadd, 1) := by decide +kernel
theorem dX4_off_26 : decode cX4_off 26 = .ok (.iload_n 2, 1) := by decide +kernel
theorem dX4_off_27 : decode cX4_off 27 = .ok (.ifCond .eq 7, 3) := by decide +kernel
theorem dX4_off_30 : decode cX4_off 30 = .ok (.iconst 1, 1) := by decide +kernel
theorem dX4_off_31 : decode cX4_off 31 = .ok (.goto 4, 3) := by decide +kernel
theorem dX4_off_34 : decode cX4_off 34 = .ok (.iconst 0, 1) := by decide +kernel
theorem dX4_off_35 : decode cX4_off 35 = .ok (.iastore, 1) := by decide +kernel
theorem dX4_off_36 : decode cX4_off 36 = .ok (.iconst 1, 1) := by decide +kernel
theorem dX4_off_37 : decode cX4_off 37 = .ok (.ireturn, 1) := by decide +kernel
theorem dX4_party_0 : decode cX4_party 0 = .ok (.aload_n 0, 1) := by decide +kernel
theorem dX4_party_1 : decode cX4_party 1 = .ok (.iconst 0, 1) := by decide +kernel
theorem dX4_party_2 : decode cX4_party 2 = .ok (.putfield 52, 3) := by decide +kernel
theorem dX4_party_5 : decode cX4_party 5 = .ok (.aload_n 0, 1) := by decide +kernel
theorem dX4_party_6 : decode cX4_party 6 = .ok (.iload_n 1, 1) := by decide +kernel
theorem dX4_party_7 : decode cX4_party 7 = .ok (.invokevirtual 66, 3) := by decide +kernel
theorem dX4_party_10 : decode cX4_party 10 = .ok (.ifCond .eq 44, 3) := by decide +kernel
theorem dX4_party_13 : decode cX4_party 13 = .ok (.iload_n 2, 1) := by decide +kernel
theorem dX4_party_14 : decode cX4_party 14 = .ok (.iconst 1, 1) := by decide +kernel
theorem dX4_party_15 : decode cX4_party 15 = .ok (.bipush 6, 2) := by decide +kernel
theorem dX4_party_17 : decode cX4_party 17 = .ok (.invokestatic 59, 3) := by decide +kernel
theorem dX4_party_20 : decode cX4_party 20 = .ok (.ifCond .eq 34, 3) := by decide +kernel
theorem dX4_party_23 : decode cX4_party 23 = .ok (.iload_n 3, 1) := by decide +kernel
theorem dX4_party_24 : decode cX4_party 24 = .ok (.iconst 0, 1) := by decide +kernel
theorem dX4_party_25 : decode cX4_party 25 = .ok (.bipush 9, 2) := by decide +kernel
theorem dX4_party_27 : decode cX4_party 27 = .ok (.invokestatic 59, 3) := by decide +kernel
theorem dX4_party_30 : decode cX4_party 30 = .ok (.ifCond .eq 24, 3) := by decide +kernel
theorem dX4_party_33 : decode cX4_party 33 = .ok (.iload 4, 2) := by decide +kernel
theorem dX4_party_35 : decode cX4_party 35 = .ok (.iconst (-1), 1) := by decide +kernel
theorem dX4_party_36 : decode cX4_party 36 = .ok (.sipush 999, 3) := by decide +kernel
theorem dX4_party_39 : decode cX4_party 39 = .ok (.invokestatic 59, 3) := by decide +kernel
theorem dX4_party_42 : decode cX4_party 42 = .ok (.ifCond .eq 12, 3) := by decide +kernel
theorem dX4_party_45 : decode cX4_party 45 = .ok (.aload_n 0, 1) := by decide +kernel
theorem dX4_party_46 : decode cX4_party 46 = .ok (.getfield 63, 3) := by decide +kernel
theorem dX4_party_49 : decode cX4_party 49 = .ok (.bipush 20, 2) := by decide +kernel
theorem dX4_party_51 : decode cX4_party 51 = .ok (.if_icmp .ne 5, 3) := by decide +kernel
theorem dX4_party_54 : decode cX4_party 54 = .ok (.iconst (-1), 1) := by decide +kernel
theorem dX4_party_55 : decode cX4_party 55 = .ok (.ireturn, 1) := by decide +kernel
theorem dX4_party_56 : decode cX4_party 56 = .ok (.bipush 9, 2) := by decide +kernel
theorem dX4_party_58 : decode cX4_party 58 = .ok (.newarray .int, 2) := by decide +kernel
theorem dX4_party_60 : decode cX4_party 60 = .ok (.dup, 1) := by decide +kernel
theorem dX4_party_61 : decode cX4_party 61 = .ok (.iconst 0, 1) := by decide +kernel
theorem dX4_party_62 : decode cX4_party 62 = .ok (.iload_n 1, 1) := by decide +kernel
theorem dX4_party_63 : decode cX4_party 63 = .ok (.iastore, 1) := by decide +kernel
theorem dX4_party_64 : decode cX4_party 64 = .ok (.dup, 1) := by decide +kernel
theorem dX4_party_65 : decode cX4_party 65 = .ok (.iconst 1, 1) := by decide +kernel
theorem dX4_party_66 : decode cX4_party 66 = .ok (.iload_n 2, 1) := by decide +kernel
theorem dX4_party_67 : decode cX4_party 67 = .ok (.iastore, 1) := by decide +kernel
theorem dX4_party_68 : decode cX4_party 68 = .ok (.dup, 1) := by decide +kernel
theorem dX4_party_69 : decode cX4_party 69 = .ok (.iconst 2, 1) := by decide +kernel
theorem dX4_party_70 : decode cX4_party 70 = .ok (.iload_n 3, 1) := by decide +kernel
theorem dX4_party_71 : decode cX4_party 71 = .ok (.iastore, 1) := by decide +kernel
theorem dX4_party_72 : decode cX4_party 72 = .ok (.dup, 1) := by decide +kernel
theorem dX4_party_73 : decode cX4_party 73 = .ok (.iconst 3, 1) := by decide +kernel
theorem dX4_party_74 : decode cX4_party 74 = .ok (.iload 4, 2) := by decide +kernel
theorem dX4_party_76 : decode cX4_party 76 = .ok (.iastore, 1) := by decide +kernel
theorem dX4_party_77 : decode cX4_party 77 = .ok (.dup, 1) := by decide +kernel
theorem dX4_party_78 : decode cX4_party 78 = .ok (.iconst 4, 1) := by decide +kernel
theorem dX4_party_79 : decode cX4_party 79 = .ok (.iload 5, 2) := by decide +kernel
theorem dX4_party_81 : decode cX4_party 81 = .ok (.ifCond .eq 7, 3) := by decide +kernel
theorem dX4_party_84 : decode cX4_party 84 = .ok (.iconst 1, 1) := by decide +kernel
theorem dX4_party_85 : decode cX4_party 85 = .ok (.goto 4, 3) := by decide +kernel
theorem dX4_party_88 : decode cX4_party 88 = .ok (.iconst 0, 1) := by decide +kernel
theorem dX4_party_89 : decode cX4_party 89 = .ok (.iastore, 1) := by decide +kernel
theorem dX4_party_90 : decode cX4_party 90 = .ok (.dup, 1) := by decide +kernel
theorem dX4_party_91 : decode cX4_party 91 = .ok (.iconst 5, 1) := by decide +kernel
theorem dX4_party_92 : decode cX4_party 92 = .ok (.iconst 0, 1) := by decide +kernel
theorem dX4_party_93 : decode cX4_party 93 = .ok (.iastore, 1) := by decide +kernel
theorem dX4_party_94 : decode cX4_party 94 = .ok (.dup, 1) := by decide +kernel
theorem dX4_party_95 : decode cX4_party 95 = .ok (.bipush 6, 2) := by decide +kernel
theorem dX4_party_97 : decode cX4_party 97 = .ok (.iconst 0, 1) := by decide +kernel
theorem dX4_party_98 : decode cX4_party 98 = .ok (.iastore, 1) := by decide +kernel
theorem dX4_party_99 : decode cX4_party 99 = .ok (.dup, 1) := by decide +kernel
theorem dX4_party_100 : decode cX4_party 100 = .ok (.bipush 7, 2) := by decide +kernel
theorem dX4_party_102 : decode cX4_party 102 = .ok (.iconst (-1), 1) := by decide +kernel
theorem dX4_party_103 : decode cX4_party 103 = .ok (.iastore, 1) := by decide +kernel
theorem dX4_party_104 : decode cX4_party 104 = .ok (.dup, 1) := by decide +kernel
theorem dX4_party_105 : decode cX4_party 105 = .ok (.bipush 8, 2) := by decide +kernel
theorem dX4_party_107 : decode cX4_party 107 = .ok (.iconst (-1), 1) := by decide +kernel
theorem dX4_party_108 : decode cX4_party 108 = .ok (.iastore, 1) := by decide +kernel
theorem dX4_party_109 : decode cX4_party 109 = .ok (.astore 6, 2) := by decide +kernel
theorem dX4_party_111 : decode cX4_party 111 = .ok (.iconst 0, 1) := by decide +kernel
theorem dX4_party_112 : decode cX4_party 112 = .ok (.istore 7, 2) := by decide +kernel
theorem dX4_party_114 : decode cX4_party 114 = .ok (.iload 7, 2) := by decide +kernel
theorem dX4_party_116 : decode cX4_party 116 = .ok (.bipush 9, 2) := by decide +kernel
theorem dX4_party_118 : decode cX4_party 118 = .ok (.if_icmp .ge 29, 3) := by decide +kernel
theorem dX4_party_121 : decode cX4_party 121 = .ok (.aload_n 0, 1) := by decide +kernel
theorem dX4_party_122 : decode cX4_party 122 = .ok (.getfield 13, 3) := by decide +kernel
theorem dX4_party_125 : decode cX4_party 125 = .ok (.bipush 9, 2) := by decide +kernel
theorem dX4_party_127 : decode cX4_party 127 = .ok (.aload_n 0, 1) := by decide +kernel
theorem dX4_party_128 : decode cX4_party 128 = .ok (.getfield 63, 3) := by decide +kernel
theorem dX4_party_131 : decode cX4_party 131 = .ok (.imul, 1) := by decide +kernel
theorem dX4_party_132 : decode cX4_party 132 = .ok (.iload 7, 2) := by decide +kernel
theorem dX4_party_134 : decode cX4_party 134 = .ok (.iadd, 1) := by decide +kernel
theorem dX4_party_135 : decode cX4_party 135 = .ok (.aload 6, 2) := by decide +kernel
theorem dX4_party_137 : decode cX4_party 137 = .ok (.iload 7, 2) := by decide +kernel
theorem dX4_party_139 : decode cX4_party 139 = .ok (.iaload, 1) := by decide +kernel
theorem dX4_party_140 : decode cX4_party 140 = .ok (.iastore, 1) := by decide +kernel
theorem dX4_party_141 : decode cX4_party 141 = .ok (.iinc 7 1, 3) := by decide +kernel
theorem dX4_party_144 : decode cX4_party 144 = .ok (.goto (-30), 3) := by decide +kernel
theorem dX4_party_147 : decode cX4_party 147 = .ok (.aload_n 0, 1) := by decide +kernel
theorem dX4_party_148 : decode cX4_party 148 = .ok (.dup, 1) := by decide +kernel
theorem dX4_party_149 : decode cX4_party 149 = .ok (.getfield 63, 3) := by decide +kernel
theorem dX4_party_152 : decode cX4_party 152 = .ok (.iconst 1, 1) := by decide +kernel
theorem dX4_party_153 : decode cX4_party 153 = .ok (.iadd, 1) := by decide +kernel
theorem dX4_party_154 : decode cX4_party 154 = .ok (.putfield 63, 3) := by decide +kernel
theorem dX4_party_157 : decode cX4_party 157 = .ok (.aload_n 0, 1) := by decide +kernel
theorem dX4_party_158 : decode cX4_party 158 = .ok (.getfield 63, 3) := by decide +kernel
theorem dX4_party_161 : decode cX4_party 161 = .ok (.iconst 1, 1) := by decide +kernel
theorem dX4_party_162 : decode cX4_party 162 = .ok (.isub, 1) := by decide +kernel
theorem dX4_party_163 : decode cX4_party 163 = .ok (.ireturn, 1) := by decide +kernel
theorem dX4_set_0 : decode cX4_set 0 = .ok (.aload_n 0, 1) := by decide +kernel
theorem dX4_set_1 : decode cX4_set 1 = .ok (.iconst 0, 1) := by decide +kernel
theorem dX4_set_2 : decode cX4_set 2 = .ok (.putfield 52, 3) := by decide +kernel
theorem dX4_set_5 : decode cX4_set 5 = .ok (.iload_n 1, 1) := by decide +kernel
theorem dX4_set_6 : decode cX4_set 6 = .ok (.iconst 0, 1) := by decide +kernel
theorem dX4_set_7 : decode cX4_set 7 = .ok (.iconst 3, 1) := by decide +kernel
theorem dX4_set_8 : decode cX4_set 8 = .ok (.invokestatic 59, 3) := by decide +kernel
theorem dX4_set_11 : decode cX4_set 11 = .ok (.ifCond .eq 24, 3) := by decide +kernel
theorem dX4_set_14 : decode cX4_set 14 = .ok (.iload_n 2, 1) := by decide +kernel
theorem dX4_set_15 : decode cX4_set 15 = .ok (.iconst 0, 1) := by decide +kernel
theorem dX4_set_16 : decode cX4_set 16 = .ok (.iload_n 1, 1) := by decide +kernel
theorem dX4_set_17 : decode cX4_set 17 = .ok (.ifCond .ne 9, 3) := by decide +kernel
theorem dX4_set_20 : decode cX4_set 20 = .ok (.sipush 300, 3) := by decide +kernel
theorem dX4_set_23 : decode cX4_set 23 = .ok (.goto 6, 3) := by decide +kernel
theorem dX4_set_26 : decode cX4_set 26 = .ok (.sipush 9999, 3) := by decide +kernel
theorem dX4_set_29 : decode cX4_set 29 = .ok (.invokestatic 59, 3) := by decide +kernel
theorem dX4_set_32 : decode cX4_set 32 = .ok (.ifCond .ne 5, 3) := by decide +kernel
theorem dX4_set_35 : decode cX4_set 35 = .ok (.iconst (-1), 1) := by decide +kernel
theorem dX4_set_36 : decode cX4_set 36 = .ok (.ireturn, 1) := by decide +kernel
theorem dX4_set_37 : decode cX4_set 37 = .ok (.aload_n 0, 1) := by decide +kernel
theorem dX4_set_38 : decode cX4_set 38 = .ok (.getfield 16, 3) := by decide +kernel
theorem dX4_set_41 : decode cX4_set 41 = .ok (.iload_n 1, 1) := by decide +kernel
theorem dX4_set_42 : decode cX4_set 42 = .ok (.iaload, 1) := by decide +kernel
theorem dX4_set_43 : decode cX4_set 43 = .ok (.istore_n 3, 1) := by decide +kernel
theorem dX4_set_44 : decode cX4_set 44 = .ok (.aload_n 0, 1) := by decide +kernel
theorem dX4_set_45 : decode cX4_set 45 = .ok (.getfield 16, 3) := by decide +kernel
theorem dX4_set_48 : decode cX4_set 48 = .ok (.iload_n 1, 1) := by decide +kernel
theorem dX4_set_49 : decode cX4_set 49 = .ok (.iload_n 2, 1) := by decide +kernel
theorem dX4_set_50 : decode cX4_set 50 = .ok (.iastore, 1) := by decide +kernel
theorem dX4_set_51 : decode cX4_set 51 = .ok (.iload_n 3, 1) := by decide +kernel
theorem dX4_set_52 : decode cX4_set 52 = .ok (.ireturn, 1) := by decide +kernel
theorem dX4_load_0 : decode cX4_load 0 = .ok (.iconst 0, 1) := by decide +kernel
theorem dX4_load_1 : decode cX4_load 1 = .ok (.istore_n 2, 1) := by decide +kernel
theorem dX4_load_2 : decode cX4_load 2 = .ok (.iconst 0, 1) := by decide +kernel
theorem dX4_load_3 : decode cX4_load 3 = .ok (.istore_n 3, 1) := by decide +kernel
theorem dX4_load_4 : decode cX4_load 4 = .ok (.iload_n 3, 1) := by decide +kernel
theorem dX4_load_5 : decode cX4_load 5 = .ok (.aload_n 0, 1) := by decide +kernel
theorem dX4_load_6 : decode cX4_load 6 = .ok (.getfield 63, 3) := by decide +kernel
theorem dX4_load_9 : decode cX4_load 9 = .ok (.if_icmp .ge 62, 3) := by decide +kernel
theorem dX4_load_12 : decode cX4_load 12 = .ok (.aload_n 0, 1) := by decide +kernel
theorem dX4_load_13 : decode cX4_load 13 = .ok (.iload_n 3, 1) := by decide +kernel
theorem dX4_load_14 : decode cX4_load 14 = .ok (.iconst 5, 1) := by decide +kernel
theorem dX4_load_15 : decode cX4_load 15 = .ok (.invokevirtual 70, 3) := by decide +kernel
theorem dX4_load_18 : decode cX4_load 18 = .ok (.ifCond .ne 16, 3) := by decide +kernel
theorem dX4_load_21 : decode cX4_load 21 = .ok (.aload_n 0, 1) := by decide +kernel
theorem dX4_load_22 : decode cX4_load 22 = .ok (.iload_n 3, 1) := by decide +kernel
theorem dX4_load_23 : decode cX4_load 23 = .ok (.iconst 0, 1) := by decide +kernel
theorem dX4_load_24 : decode cX4_load 24 = .ok (.invokevirtual 70, 3) := by decide +kernel
theorem dX4_load_27 : decode cX4_load 27 = .ok (.iload_n 1, 1) := by decide +kernel
theorem dX4_load_28 : decode cX4_load 28 = .ok (.if_icmp .ne 37, 3) := by decide +kernel
theorem dX4_load_31 : decode cX4_load 31 = .ok (.goto 25, 3) := by decide +kernel
theorem dX4_load_34 : decode cX4_load 34 = .ok (.aload_n 0, 1) := by decide +kernel
theorem dX4_load_35 : decode cX4_load 35 = .ok (.iload_n 3, 1) := by decide +kernel
theorem dX4_load_36 : decode cX4_load 36 = .ok (.bipush 7, 2) := by decide +kernel
theorem dX4_load_38 : decode cX4_load 38 = .ok (.invokevirtual 70, 3) := by decide +kernel
theorem dX4_load_41 : decode cX4_load 41 = .ok (.iload_n 1, 1) := by decide +kernel
theorem dX4_load_42 : decode cX4_load 42 = .ok (.if_icmp .eq 14, 3) := by decide +kernel
theorem dX4_load_45 : decode cX4_load 45 = .ok (.aload_n 0, 1) := by decide +kernel
theorem dX4_load_46 : decode cX4_load 46 = .ok (.iload_n 3, 1) := by decide +kernel
theorem dX4_load_47 : decode cX4_load 47 = .ok (.bipush 8, 2) := by decide +kernel
theorem dX4_load_49 : decode cX4_load 49 = .ok (.invokevirtual 70, 3) := by decide +kernel
theorem dX4_load_52 : decode cX4_load 52 = .ok (.iload_n 1, 1) := by decide +kernel
theorem dX4_load_53 : decode cX4_load 53 = .ok (.if_icmp .ne 12, 3) := by decide +kernel
theorem dX4_load_56 : decode cX4_load 56 = .ok (.iload_n 2, 1) := by decide +kernel
theorem dX4_load_57 : decode cX4_load 57 = .ok (.aload_n 0, 1) := by decide +kernel
theorem dX4_load_58 : decode cX4_load 58 = .ok (.iload_n 3, 1) := by decide +kernel
theorem dX4_load_59 : decode cX4_load 59 = .ok (.iconst 1, 1) := by decide +kernel
theorem dX4_load_60 : decode cX4_load 60 = .ok (.invokevirtual 70, 3) := by decide +kernel
theorem dX4_load_63 : decode cX4_load 63 = .ok (.iadd, 1) := by decide +kernel
theorem dX4_load_64 : decode cX4_load 64 = .ok (.istore_n 2, 1) := by decide +kernel
theorem dX4_load_65 : decode cX4_load 65 = .ok (.iinc 3 1, 3) := by decide +kernel
theorem dX4_load_68 : decode cX4_load 68 = .ok (.goto (-64), 3) := by decide +kernel
theorem dX4_load_71 : decode cX4_load 71 = .ok (.iload_n 2, 1) := by decide +kernel
theorem dX4_load_72 : decode cX4_load 72 = .ok (.ireturn, 1) := by decide +kernel
theorem dX4_over_0 : decode cX4_over 0 = .ok (.aload_n 0, 1) := by decide +kernel
theorem dX4_over_1 : decode cX4_over 1 = .ok (.iload_n 1, 1) := by decide +kernel
theorem dX4_over_2 : decode cX4_over 2 = .ok (.bipush 6, 2) := by decide +kernel
theorem dX4_over_4 : decode cX4_over 4 = .ok (.invokevirtual 74, 3) := by decide +kernel
theorem dX4_over_7 : decode cX4_over 7 = .ok (.iconst 1, 1) := by decide +kernel
theorem dX4_over_8 : decode cX4_over 8 = .ok (.if_icmp .ne 9, 3) := by decide +kernel
theorem dX4_over_11 : decode cX4_over 11 = .ok (.aload_n 0, 1) := by decide +kernel
theorem dX4_over_12 : decode cX4_over 12 = .ok (.iload_n 1, 1) := by decide +kernel
theorem dX4_over_13 : decode cX4_over 13 = .ok (.invokevirtual 77, 3) := by decide +kernel
theorem dX4_over_16 : decode cX4_over 16 = .ok (.ireturn, 1) := by decide +kernel
theorem dX4_over_17 : decode cX4_over 17 = .ok (.iconst 0, 1) := by decide +kernel
theorem dX4_over_18 : decode cX4_over 18 = .ok (.aload_n 0, 1) := by decide +kernel
theorem dX4_over_19 : decode cX4_over 19 = .ok (.iload_n 1, 1) := by decide +kernel
theorem dX4_over_20 : decode cX4_over 20 = .ok (.invokevirtual 77, 3) := by decide +kernel
theorem dX4_over_23 : decode cX4_over 23 = .ok (.aload_n 0, 1) := by decide +kernel
theorem dX4_over_24 : decode cX4_over 24 = .ok (.iload_n 1, 1) := by decide +kernel
theorem dX4_over_25 : decode cX4_over 25 = .ok (.iconst 4, 1) := by decide +kernel
theorem dX4_over_26 : decode cX4_over 26 = .ok (.invokevirtual 74, 3) := by decide +kernel
theorem dX4_over_29 : decode cX4_over 29 = .ok (.isub, 1) := by decide +kernel
theorem dX4_over_30 : decode cX4_over 30 = .ok (.invokestatic 81, 3) := by decide +kernel
theorem dX4_over_33 : decode cX4_over 33 = .ok (.ireturn, 1) := by decide +kernel
theorem dX4_told_0 : decode cX4_told 0 = .ok (.aload_n 0, 1) := by decide +kernel
theorem dX4_told_1 : decode cX4_told 1 = .ok (.iconst 0, 1) := by decide +kernel
theorem dX4_told_2 : decode cX4_told 2 = .ok (.putfield 52, 3) := by decide +kernel
theorem dX4_told_5 : decode cX4_told 5 = .ok (.aload_n 0, 1) := by decide +kernel
theorem dX4_told_6 : decode cX4_told 6 = .ok (.iload_n 1, 1) := by decide +kernel
theorem dX4_told_7 : decode cX4_told 7 = .ok (.invokevirtual 66, 3) := by decide +kernel
theorem dX4_told_10 : decode cX4_told 10 = .ok (.ifCond .ne 5, 3) := by decide +kernel
theorem dX4_told_13 : decode cX4_told 13 = .ok (.iconst (-1), 1) := by decide +kernel
theorem dX4_told_14 : decode cX4_told 14 = .ok (.ireturn, 1) := by decide +kernel
theorem dX4_told_15 : decode cX4_told 15 = .ok (.iload_n 2, 1) := by decide +kernel
theorem dX4_told_16 : decode cX4_told 16 = .ok (.tableswitch 127 0 4 #[36, 42, 48, 55, 63], 36) := by decide +kernel
theorem dX4_told_52 : decode cX4_told 52 = .ok (.aload_n 0, 1) := by decide +kernel
theorem dX4_told_53 : decode cX4_told 53 = .ok (.iload_n 1, 1) := by decide +kernel
theorem dX4_told_54 : decode cX4_told 54 = .ok (.invokevirtual 77, 3) := by decide +kernel
theorem dX4_told_57 : decode cX4_told 57 = .ok (.ireturn, 1) := by decide +kernel
theorem dX4_told_58 : decode cX4_told 58 = .ok (.aload_n 0, 1) := by decide +kernel
theorem dX4_told_59 : decode cX4_told 59 = .ok (.iload_n 1, 1) := by decide +kernel
theorem dX4_told_60 : decode cX4_told 60 = .ok (.invokevirtual 86, 3) := by decide +kernel
theorem dX4_told_63 : decode cX4_told 63 = .ok (.ireturn, 1) := by decide +kernel
theorem dX4_told_64 : decode cX4_told 64 = .ok (.aload_n 0, 1) := by decide +kernel
theorem dX4_told_65 : decode cX4_told 65 = .ok (.iload_n 1, 1) := by decide +kernel
theorem dX4_told_66 : decode cX4_told 66 = .ok (.iconst 4, 1) := by decide +kernel
theorem dX4_told_67 : decode cX4_told 67 = .ok (.invokevirtual 74, 3) := by decide +kernel
theorem dX4_told_70 : decode cX4_told 70 = .ok (.ireturn, 1) := by decide +kernel
theorem dX4_told_71 : decode cX4_told 71 = .ok (.aload_n 0, 1) := by decide +kernel
theorem dX4_told_72 : decode cX4_told 72 = .ok (.iload_n 1, 1) := by decide +kernel
theorem dX4_told_73 : decode cX4_told 73 = .ok (.bipush 6, 2) := by decide +kernel
theorem dX4_told_75 : decode cX4_told 75 = .ok (.invokevirtual 74, 3) := by decide +kernel
theorem dX4_told_78 : decode cX4_told 78 = .ok (.ireturn, 1) := by decide +kernel
theorem dX4_told_79 : decode cX4_told 79 = .ok (.iconst 0, 1) := by decide +kernel
theorem dX4_told_80 : decode cX4_told 80 = .ok (.istore_n 3, 1) := by decide +kernel
theorem dX4_told_81 : decode cX4_told 81 = .ok (.iconst 0, 1) := by decide +kernel
theorem dX4_told_82 : decode cX4_told 82 = .ok (.istore 4, 2) := by decide +kernel
theorem dX4_told_84 : decode cX4_told 84 = .ok (.iload 4, 2) := by decide +kernel
theorem dX4_told_86 : decode cX4_told 86 = .ok (.aload_n 0, 1) := by decide +kernel
theorem dX4_told_87 : decode cX4_told 87 = .ok (.getfield 63, 3) := by decide +kernel
theorem dX4_told_90 : decode cX4_told 90 = .ok (.if_icmp .ge 51, 3) := by decide +kernel
theorem dX4_told_93 : decode cX4_told 93 = .ok (.aload_n 0, 1) := by decide +kernel
theorem dX4_told_94 : decode cX4_told 94 = .ok (.iload 4, 2) := by decide +kernel
theorem dX4_told_96 : decode cX4_told 96 = .ok (.iconst 0, 1) := by decide +kernel
theorem dX4_told_97 : decode cX4_told 97 = .ok (.invokevirtual 70, 3) := by decide +kernel
theorem dX4_told_100 : decode cX4_told 100 = .ok (.iload_n 1, 1) := by decide +kernel
theorem dX4_told_101 : decode cX4_told 101 = .ok (.if_icmp .ne 34, 3) := by decide +kernel
theorem dX4_told_104 : decode cX4_told 104 = .ok (.aload_n 0, 1) := by decide +kernel
theorem dX4_told_105 : decode cX4_told 105 = .ok (.iload 4, 2) := by decide +kernel
theorem dX4_told_107 : decode cX4_told 107 = .ok (.iconst 4, 1) := by decide +kernel
theorem dX4_told_108 : decode cX4_told 108 = .ok (.invokevirtual 70, 3) := by decide +kernel
theorem dX4_told_111 : decode cX4_told 111 = .ok (.iconst 1, 1) := by decide +kernel
theorem dX4_told_112 : decode cX4_told 112 = .ok (.if_icmp .ne 23, 3) := by decide +kernel
theorem dX4_told_115 : decode cX4_told 115 = .ok (.aload_n 0, 1) := by decide +kernel
theorem dX4_told_116 : decode cX4_told 116 = .ok (.iload 4, 2) := by decide +kernel
theorem dX4_told_118 : decode cX4_told 118 = .ok (.iconst 5, 1) := by decide +kernel
theorem dX4_told_119 : decode cX4_told 119 = .ok (.invokevirtual 70, 3) := by decide +kernel
theorem dX4_told_122 : decode cX4_told 122 = .ok (.ifCond .ne 13, 3) := by decide +kernel
theorem dX4_told_125 : decode cX4_told 125 = .ok (.iload_n 3, 1) := by decide +kernel
theorem dX4_told_126 : decode cX4_told 126 = .ok (.aload_n 0, 1) := by decide +kernel
theorem dX4_told_127 : decode cX4_told 127 = .ok (.iload 4, 2) := by decide +kernel
theorem dX4_told_129 : decode cX4_told 129 = .ok (.iconst 1, 1) := by decide +kernel
theorem dX4_told_130 : decode cX4_told 130 = .ok (.invokevirtual 70, 3) := by decide +kernel
theorem dX4_told_133 : decode cX4_told 133 = .ok (.iadd, 1) := by decide +kernel
theorem dX4_told_134 : decode cX4_told 134 = .ok (.istore_n 3, 1) := by decide +kernel
theorem dX4_told_135 : decode cX4_told 135 = .ok (.iinc 4 1, 3) := by decide +kernel
theorem dX4_told_138 : decode cX4_told 138 = .ok (.goto (-54), 3) := by decide +kernel
theorem dX4_told_141 : decode cX4_told 141 = .ok (.iload_n 3, 1) := by decide +kernel
theorem dX4_told_142 : decode cX4_told 142 = .ok (.ireturn, 1) := by decide +kernel
theorem dX4_told_143 : decode cX4_told 143 = .ok (.iconst (-1), 1) := by decide +kernel
theorem dX4_told_144 : decode cX4_told 144 = .ok (.ireturn, 1) := by decide +kernel
theorem dX4_lateBy_0 : decode cX4_lateBy 0 = .ok (.aload_n 0, 1) := by decide +kernel
theorem dX4_lateBy_1 : decode cX4_lateBy 1 = .ok (.iload_n 1, 1) := by decide +kernel
theorem dX4_lateBy_2 : decode cX4_lateBy 2 = .ok (.iconst 0, 1) := by decide +kernel
theorem dX4_lateBy_3 : decode cX4_lateBy 3 = .ok (.invokevirtual 70, 3) := by decide +kernel
theorem dX4_lateBy_6 : decode cX4_lateBy 6 = .ok (.istore 4, 2) := by decide +kernel
theorem dX4_lateBy_8 : decode cX4_lateBy 8 = .ok (.aload_n 0, 1) := by decide +kernel
theorem dX4_lateBy_9 : decode cX4_lateBy 9 = .ok (.iload_n 2, 1) := by decide +kernel
theorem dX4_lateBy_10 : decode cX4_lateBy 10 = .ok (.invokevirtual 66, 3) := by decide +kernel
theorem dX4_lateBy_13 : decode cX4_lateBy 13 = .ok (.ifCond .eq 52, 3) := by decide +kernel
theorem dX4_lateBy_16 : decode cX4_lateBy 16 = .ok (.iload_n 2, 1) := by decide +kernel
theorem dX4_lateBy_17 : decode cX4_lateBy 17 = .ok (.iload 4, 2) := by decide +kernel
theorem dX4_lateBy_19 : decode cX4_lateBy 19 = .ok (.if_icmp .eq 46, 3) := by decide +kernel
theorem dX4_lateBy_22 : decode cX4_lateBy 22 = .ok (.aload_n 0, 1) := by decide +kernel
theorem dX4_lateBy_23 : decode cX4_lateBy 23 = .ok (.iload_n 2, 1) := by decide +kernel
theorem dX4_lateBy_24 : decode cX4_lateBy 24 = .ok (.bipush 6, 2) := by decide +kernel
theorem dX4_lateBy_26 : decode cX4_lateBy 26 = .ok (.invokevirtual 74, 3) := by decide +kernel
theorem dX4_lateBy_29 : decode cX4_lateBy 29 = .ok (.iconst 1, 1) := by decide +kernel
theorem dX4_lateBy_30 : decode cX4_lateBy 30 = .ok (.if_icmp .eq 35, 3) := by decide +kernel
theorem dX4_lateBy_33 : decode cX4_lateBy 33 = .ok (.aload_n 0, 1) := by decide +kernel
theorem dX4_lateBy_34 : decode cX4_lateBy 34 = .ok (.iload_n 2, 1) := by decide +kernel
theorem dX4_lateBy_35 : decode cX4_lateBy 35 = .ok (.iconst 0, 1) := by decide +kernel
theorem dX4_lateBy_36 : decode cX4_lateBy 36 = .ok (.invokevirtual 74, 3) := by decide +kernel
theorem dX4_lateBy_39 : decode cX4_lateBy 39 = .ok (.aload_n 0, 1) := by decide +kernel
theorem dX4_lateBy_40 : decode cX4_lateBy 40 = .ok (.iload 4, 2) := by decide +kernel
theorem dX4_lateBy_42 : decode cX4_lateBy 42 = .ok (.iconst 0, 1) := by decide +kernel
theorem dX4_lateBy_43 : decode cX4_lateBy 43 = .ok (.invokevirtual 74, 3) := by decide +kernel
theorem dX4_lateBy_46 : decode cX4_lateBy 46 = .ok (.if_icmp .ne 19, 3) := by decide +kernel
theorem dX4_lateBy_49 : decode cX4_lateBy 49 = .ok (.aload_n 0, 1) := by decide +kernel
theorem dX4_lateBy_50 : decode cX4_lateBy 50 = .ok (.iload_n 2, 1) := by decide +kernel
theorem dX4_lateBy_51 : decode cX4_lateBy 51 = .ok (.iconst 2, 1) := by decide +kernel
theorem dX4_lateBy_52 : decode cX4_lateBy 52 = .ok (.invokevirtual 74, 3) := by decide +kernel
theorem dX4_lateBy_55 : decode cX4_lateBy 55 = .ok (.aload_n 0, 1) := by decide +kernel
theorem dX4_lateBy_56 : decode cX4_lateBy 56 = .ok (.iload 4, 2) := by decide +kernel
theorem dX4_lateBy_58 : decode cX4_lateBy 58 = .ok (.iconst 2, 1) := by decide +kernel
theorem dX4_lateBy_59 : decode cX4_lateBy 59 = .ok (.invokevirtual 74, 3) := by decide +kernel
theorem dX4_lateBy_62 : decode cX4_lateBy 62 = .ok (.if_icmp .ge 5, 3) := by decide +kernel
theorem dX4_lateBy_65 : decode cX4_lateBy 65 = .ok (.iconst (-1), 1) := by decide +kernel
theorem dX4_lateBy_66 : decode cX4_lateBy 66 = .ok (.ireturn, 1) := by decide +kernel
theorem dX4_lateBy_67 : decode cX4_lateBy 67 = .ok (.iload_n 2, 1) := by decide +kernel
theorem dX4_lateBy_68 : decode cX4_lateBy 68 = .ok (.istore 5, 2) := by decide +kernel
theorem dX4_lateBy_70 : decode cX4_lateBy 70 = .ok (.iload_n 3, 1) := by decide +kernel
theorem dX4_lateBy_71 : decode cX4_lateBy 71 = .ok (.iconst (-1), 1) := by decide +kernel
theorem dX4_lateBy_72 : decode cX4_lateBy 72 = .ok (.if_icmp .eq 64, 3) := by decide +kernel
theorem dX4_lateBy_75 : decode cX4_lateBy 75 = .ok (.aload_n 0, 1) := by decide +kernel
theorem dX4_lateBy_76 : decode cX4_lateBy 76 = .ok (.iload_n 3, 1) := by decide +kernel
theorem dX4_lateBy_77 : decode cX4_lateBy 77 = .ok (.invokevirtual 66, 3) := by decide +kernel
theorem dX4_lateBy_80 : decode cX4_lateBy 80 = .ok (.ifCond .eq 51, 3) := by decide +kernel
theorem dX4_lateBy_83 : decode cX4_lateBy 83 = .ok (.aload_n 0, 1) := by decide +kernel
theorem dX4_lateBy_84 : decode cX4_lateBy 84 = .ok (.iload_n 3, 1) := by decide +kernel
theorem dX4_lateBy_85 : decode cX4_lateBy 85 = .ok (.bipush 6, 2) := by decide +kernel
theorem dX4_lateBy_87 : decode cX4_lateBy 87 = .ok (.invokevirtual 74, 3) := by decide +kernel
theorem dX4_lateBy_90 : decode cX4_lateBy 90 = .ok (.iconst 1, 1) := by decide +kernel
theorem dX4_lateBy_91 : decode cX4_lateBy 91 = .ok (.if_icmp .eq 40, 3) := by decide +kernel
theorem dX4_lateBy_94 : decode cX4_lateBy 94 = .ok (.aload_n 0, 1) := by decide +kernel
theorem dX4_lateBy_95 : decode cX4_lateBy 95 = .ok (.iload_n 3, 1) := by decide +kernel
theorem dX4_lateBy_96 : decode cX4_lateBy 96 = .ok (.iconst 0, 1) := by decide +kernel
theorem dX4_lateBy_97 : decode cX4_lateBy 97 = .ok (.invokevirtual 74, 3) := by decide +kernel
theorem dX4_lateBy_100 : decode cX4_lateBy 100 = .ok (.aload_n 0, 1) := by decide +kernel
theorem dX4_lateBy_101 : decode cX4_lateBy 101 = .ok (.iload_n 2, 1) := by decide +kernel
theorem dX4_lateBy_102 : decode cX4_lateBy 102 = .ok (.iconst 1, 1) := by decide +kernel
theorem dX4_lateBy_103 : decode cX4_lateBy 103 = .ok (.invokevirtual 74, 3) := by decide +kernel
theorem dX4_lateBy_106 : decode cX4_lateBy 106 = .ok (.if_icmp .ne 25, 3) := by decide +kernel
theorem dX4_lateBy_109 : decode cX4_lateBy 109 = .ok (.aload_n 0, 1) := by decide +kernel
theorem dX4_lateBy_110 : decode cX4_lateBy 110 = .ok (.iload_n 3, 1) := by decide +kernel
theorem dX4_lateBy_111 : decode cX4_lateBy 111 = .ok (.iconst 2, 1) := by decide +kernel
theorem dX4_lateBy_112 : decode cX4_lateBy 112 = .ok (.invokevirtual 74, 3) := by decide +kernel
theorem dX4_lateBy_115 : decode cX4_lateBy 115 = .ok (.aload_n 0, 1) := by decide +kernel
theorem dX4_lateBy_116 : decode cX4_lateBy 116 = .ok (.iload_n 2, 1) := by decide +kernel
theorem dX4_lateBy_117 : decode cX4_lateBy 117 = .ok (.iconst 3, 1) := by decide +kernel
theorem dX4_lateBy_118 : decode cX4_lateBy 118 = .ok (.invokevirtual 74, 3) := by decide +kernel
theorem dX4_lateBy_121 : decode cX4_lateBy 121 = .ok (.aload_n 0, 1) := by decide +kernel
theorem dX4_lateBy_122 : decode cX4_lateBy 122 = .ok (.getfield 16, 3) := by decide +kernel
theorem dX4_lateBy_125 : decode cX4_lateBy 125 = .ok (.iconst 0, 1) := by decide +kernel
theorem dX4_lateBy_126 : decode cX4_lateBy 126 = .ok (.iaload, 1) := by decide +kernel
theorem dX4_lateBy_127 : decode cX4_lateBy 127 = .ok (.iadd, 1) := by decide +kernel
theorem dX4_lateBy_128 : decode cX4_lateBy 128 = .ok (.if_icmp .ge 5, 3) := by decide +kernel
theorem dX4_lateBy_131 : decode cX4_lateBy 131 = .ok (.iconst (-1), 1) := by decide +kernel
theorem dX4_lateBy_132 : decode cX4_lateBy 132 = .ok (.ireturn, 1) := by decide +kernel
theorem dX4_lateBy_133 : decode cX4_lateBy 133 = .ok (.iload_n 3, 1) := by decide +kernel
theorem dX4_lateBy_134 : decode cX4_lateBy 134 = .ok (.istore 5, 2) := by decide +kernel
theorem dX4_lateBy_136 : decode cX4_lateBy 136 = .ok (.aload_n 0, 1) := by decide +kernel
theorem dX4_lateBy_137 : decode cX4_lateBy 137 = .ok (.iload 5, 2) := by decide +kernel
theorem dX4_lateBy_139 : decode cX4_lateBy 139 = .ok (.iconst 1, 1) := by decide +kernel
theorem dX4_lateBy_140 : decode cX4_lateBy 140 = .ok (.invokevirtual 74, 3) := by decide +kernel
theorem dX4_lateBy_143 : decode cX4_lateBy 143 = .ok (.aload_n 0, 1) := by decide +kernel
theorem dX4_lateBy_144 : decode cX4_lateBy 144 = .ok (.iload 4, 2) := by decide +kernel
theorem dX4_lateBy_146 : decode cX4_lateBy 146 = .ok (.iconst 1, 1) := by decide +kernel
theorem dX4_lateBy_147 : decode cX4_lateBy 147 = .ok (.invokevirtual 74, 3) := by decide +kernel
theorem dX4_lateBy_150 : decode cX4_lateBy 150 = .ok (.if_icmp .eq 5, 3) := by decide +kernel
theorem dX4_lateBy_153 : decode cX4_lateBy 153 = .ok (.iconst (-1), 1) := by decide +kernel
theorem dX4_lateBy_154 : decode cX4_lateBy 154 = .ok (.ireturn, 1) := by decide +kernel
theorem dX4_lateBy_155 : decode cX4_lateBy 155 = .ok (.iconst 0, 1) := by decide +kernel
theorem dX4_lateBy_156 : decode cX4_lateBy 156 = .ok (.aload_n 0, 1) := by decide +kernel
theorem dX4_lateBy_157 : decode cX4_lateBy 157 = .ok (.iload 5, 2) := by decide +kernel
theorem dX4_lateBy_159 : decode cX4_lateBy 159 = .ok (.iconst 3, 1) := by decide +kernel
theorem dX4_lateBy_160 : decode cX4_lateBy 160 = .ok (.invokevirtual 74, 3) := by decide +kernel
theorem dX4_lateBy_163 : decode cX4_lateBy 163 = .ok (.aload_n 0, 1) := by decide +kernel
theorem dX4_lateBy_164 : decode cX4_lateBy 164 = .ok (.iload 4, 2) := by decide +kernel
theorem dX4_lateBy_166 : decode cX4_lateBy 166 = .ok (.iconst 3, 1) := by decide +kernel
theorem dX4_lateBy_167 : decode cX4_lateBy 167 = .ok (.invokevirtual 74, 3) := by decide +kernel
theorem dX4_lateBy_170 : decode cX4_lateBy 170 = .ok (.isub, 1) := by decide +kernel
theorem dX4_lateBy_171 : decode cX4_lateBy 171 = .ok (.invokestatic 81, 3) := by decide +kernel
theorem dX4_lateBy_174 : decode cX4_lateBy 174 = .ok (.ireturn, 1) := by decide +kernel
theorem dX4_lateOf_0 : decode cX4_lateOf 0 = .ok (.aload_n 0, 1) := by decide +kernel
theorem dX4_lateOf_1 : decode cX4_lateOf 1 = .ok (.iload_n 1, 1) := by decide +kernel
theorem dX4_lateOf_2 : decode cX4_lateOf 2 = .ok (.bipush 7, 2) := by decide +kernel
theorem dX4_lateOf_4 : decode cX4_lateOf 4 = .ok (.invokevirtual 70, 3) := by decide +kernel
theorem dX4_lateOf_7 : decode cX4_lateOf 7 = .ok (.iconst (-1), 1) := by decide +kernel
theorem dX4_lateOf_8 : decode cX4_lateOf 8 = .ok (.if_icmp .ne 5, 3) := by decide +kernel
theorem dX4_lateOf_11 : decode cX4_lateOf 11 = .ok (.iconst (-1), 1) := by decide +kernel
theorem dX4_lateOf_12 : decode cX4_lateOf 12 = .ok (.ireturn, 1) := by decide +kernel
theorem dX4_lateOf_13 : decode cX4_lateOf 13 = .ok (.aload_n 0, 1) := by decide +kernel
theorem dX4_lateOf_14 : decode cX4_lateOf 14 = .ok (.iload_n 1, 1) := by decide +kernel
theorem dX4_lateOf_15 : decode cX4_lateOf 15 = .ok (.bipush 8, 2) := by decide +kernel
theorem dX4_lateOf_17 : decode cX4_lateOf 17 = .ok (.invokevirtual 70, 3) := by decide +kernel
theorem dX4_lateOf_20 : decode cX4_lateOf 20 = .ok (.iconst (-1), 1) := by decide +kernel
theorem dX4_lateOf_21 : decode cX4_lateOf 21 = .ok (.if_icmp .ne 13, 3) := by decide +kernel
theorem dX4_lateOf_24 : decode cX4_lateOf 24 = .ok (.aload_n 0, 1) := by decide +kernel
theorem dX4_lateOf_25 : decode cX4_lateOf 25 = .ok (.iload_n 1, 1) := by decide +kernel
theorem dX4_lateOf_26 : decode cX4_lateOf 26 = .ok (.bipush 7, 2) := by decide +kernel
theorem dX4_lateOf_28 : decode cX4_lateOf 28 = .ok (.invokevirtual 70, 3) := by decide +kernel
theorem dX4_lateOf_31 : decode cX4_lateOf 31 = .ok (.goto 10, 3) := by decide +kernel
theorem dX4_lateOf_34 : decode cX4_lateOf 34 = .ok (.aload_n 0, 1) := by decide +kernel
theorem dX4_lateOf_35 : decode cX4_lateOf 35 = .ok (.iload_n 1, 1) := by decide +kernel
theorem dX4_lateOf_36 : decode cX4_lateOf 36 = .ok (.bipush 8, 2) := by decide +kernel
theorem dX4_lateOf_38 : decode cX4_lateOf 38 = .ok (.invokevirtual 70, 3) := by decide +kernel
theorem dX4_lateOf_41 : decode cX4_lateOf 41 = .ok (.istore_n 2, 1) := by decide +kernel
theorem dX4_lateOf_42 : decode cX4_lateOf 42 = .ok (.iconst 0, 1) := by decide +kernel
theorem dX4_lateOf_43 : decode cX4_lateOf 43 = .ok (.aload_n 0, 1) := by decide +kernel
theorem dX4_lateOf_44 : decode cX4_lateOf 44 = .ok (.iload_n 2, 1) := by decide +kernel
theorem dX4_lateOf_45 : decode cX4_lateOf 45 = .ok (.iconst 3, 1) := by decide +kernel
theorem dX4_lateOf_46 : decode cX4_lateOf 46 = .ok (.invokevirtual 74, 3) := by decide +kernel
theorem dX4_lateOf_49 : decode cX4_lateOf 49 = .ok (.aload_n 0, 1) := by decide +kernel
theorem dX4_lateOf_50 : decode cX4_lateOf 50 = .ok (.aload_n 0, 1) := by decide +kernel
theorem dX4_lateOf_51 : decode cX4_lateOf 51 = .ok (.iload_n 1, 1) := by decide +kernel
theorem dX4_lateOf_52 : decode cX4_lateOf 52 = .ok (.iconst 0, 1) := by decide +kernel
theorem dX4_lateOf_53 : decode cX4_lateOf 53 = .ok (.invokevirtual 70, 3) := by decide +kernel
theorem dX4_lateOf_56 : decode cX4_lateOf 56 = .ok (.iconst 3, 1) := by decide +kernel
theorem dX4_lateOf_57 : decode cX4_lateOf 57 = .ok (.invokevirtual 74, 3) := by decide +kernel
theorem dX4_lateOf_60 : decode cX4_lateOf 60 = .ok (.isub, 1) := by decide +kernel
theorem dX4_lateOf_61 : decode cX4_lateOf 61 = .ok (.invokestatic 81, 3) := by decide +kernel
theorem dX4_lateOf_64 : decode cX4_lateOf 64 = .ok (.ireturn, 1) := by decide +kernel
theorem dX4_claim_0 : decode cX4_claim 0 = .ok (.aload_n 0, 1) := by decide +kernel
theorem dX4_claim_1 : decode cX4_claim 1 = .ok (.iload_n 1, 1) := by decide +kernel
theorem dX4_claim_2 : decode cX4_claim 2 = .ok (.iconst 5, 1) := by decide +kernel
theorem dX4_claim_3 : decode cX4_claim 3 = .ok (.invokevirtual 70, 3) := by decide +kernel
theorem dX4_claim_6 : decode cX4_claim 6 = .ok (.ifCond .ne 5, 3) := by decide +kernel
theorem dX4_claim_9 : decode cX4_claim 9 = .ok (.iconst 0, 1) := by decide +kernel
theorem dX4_claim_10 : decode cX4_claim 10 = .ok (.ireturn, 1) := by decide +kernel
theorem dX4_claim_11 : decode cX4_claim 11 = .ok (.aload_n 0, 1) := by decide +kernel
theorem dX4_claim_12 : decode cX4_claim 12 = .ok (.iload_n 1, 1) := by decide +kernel
theorem dX4_claim_13 : decode cX4_claim 13 = .ok (.iconst 5, 1) := by decide +kernel
theorem dX4_claim_14 : decode cX4_claim 14 = .ok (.invokevirtual 70, 3) := by decide +kernel
theorem dX4_claim_17 : decode cX4_claim 17 = .ok (.iconst 1, 1) := by decide +kernel
theorem dX4_claim_18 : decode cX4_claim 18 = .ok (.if_icmp .ne 18, 3) := by decide +kernel
theorem dX4_claim_21 : decode cX4_claim 21 = .ok (.aload_n 0, 1) := by decide +kernel
theorem dX4_claim_22 : decode cX4_claim 22 = .ok (.iload_n 1, 1) := by decide +kernel
theorem dX4_claim_23 : decode cX4_claim 23 = .ok (.bipush 6, 2) := by decide +kernel
theorem dX4_claim_25 : decode cX4_claim 25 = .ok (.invokevirtual 70, 3) := by decide +kernel
theorem dX4_claim_28 : decode cX4_claim 28 = .ok (.aload_n 0, 1) := by decide +kernel
theorem dX4_claim_29 : decode cX4_claim 29 = .ok (.iload_n 1, 1) := by decide +kernel
theorem dX4_claim_30 : decode cX4_claim 30 = .ok (.iconst 1, 1) := by decide +kernel
theorem dX4_claim_31 : decode cX4_claim 31 = .ok (.invokevirtual 70, 3) := by decide +kernel
theorem dX4_claim_34 : decode cX4_claim 34 = .ok (.imul, 1) := by decide +kernel
theorem dX4_claim_35 : decode cX4_claim 35 = .ok (.ireturn, 1) := by decide +kernel
theorem dX4_claim_36 : decode cX4_claim 36 = .ok (.aload_n 0, 1) := by decide +kernel
theorem dX4_claim_37 : decode cX4_claim 37 = .ok (.aload_n 0, 1) := by decide +kernel
theorem dX4_claim_38 : decode cX4_claim 38 = .ok (.iload_n 1, 1) := by decide +kernel
theorem dX4_claim_39 : decode cX4_claim 39 = .ok (.iconst 0, 1) := by decide +kernel
theorem dX4_claim_40 : decode cX4_claim 40 = .ok (.invokevirtual 70, 3) := by decide +kernel
theorem dX4_claim_43 : decode cX4_claim 43 = .ok (.iconst 5, 1) := by decide +kernel
theorem dX4_claim_44 : decode cX4_claim 44 = .ok (.invokevirtual 74, 3) := by decide +kernel
theorem dX4_claim_47 : decode cX4_claim 47 = .ok (.istore_n 2, 1) := by decide +kernel
theorem dX4_claim_48 : decode cX4_claim 48 = .ok (.iload_n 2, 1) := by decide +kernel
theorem dX4_claim_49 : decode cX4_claim 49 = .ok (.sipush 1500, 3) := by decide +kernel
theorem dX4_claim_52 : decode cX4_claim 52 = .ok (.if_icmp .gt 12, 3) := by decide +kernel
theorem dX4_claim_55 : decode cX4_claim 55 = .ok (.aload_n 0, 1) := by decide +kernel
theorem dX4_claim_56 : decode cX4_claim 56 = .ok (.getfield 16, 3) := by decide +kernel
theorem dX4_claim_59 : decode cX4_claim 59 = .ok (.iconst 1, 1) := by decide +kernel
theorem dX4_claim_60 : decode cX4_claim 60 = .ok (.iaload, 1) := by decide +kernel
theorem dX4_claim_61 : decode cX4_claim 61 = .ok (.goto 25, 3) := by decide +kernel
theorem dX4_claim_64 : decode cX4_claim 64 = .ok (.iload_n 2, 1) := by decide +kernel
theorem dX4_claim_65 : decode cX4_claim 65 = .ok (.sipush 3500, 3) := by decide +kernel
theorem dX4_claim_68 : decode cX4_claim 68 = .ok (.if_icmp .gt 12, 3) := by decide +kernel
theorem dX4_claim_71 : decode cX4_claim 71 = .ok (.aload_n 0, 1) := by decide +kernel
theorem dX4_claim_72 : decode cX4_claim 72 = .ok (.getfield 16, 3) := by decide +kernel
theorem dX4_claim_75 : decode cX4_claim 75 = .ok (.iconst 2, 1) := by decide +kernel
theorem dX4_claim_76 : decode cX4_claim 76 = .ok (.iaload, 1) := by decide +kernel
theorem dX4_claim_77 : decode cX4_claim 77 = .ok (.goto 9, 3) := by decide +kernel
theorem dX4_claim_80 : decode cX4_claim 80 = .ok (.aload_n 0, 1) := by decide +kernel
theorem dX4_claim_81 : decode cX4_claim 81 = .ok (.getfield 16, 3) := by decide +kernel
theorem dX4_claim_84 : decode cX4_claim 84 = .ok (.iconst 3, 1) := by decide +kernel
theorem dX4_claim_85 : decode cX4_claim 85 = .ok (.iaload, 1) := by decide +kernel
theorem dX4_claim_86 : decode cX4_claim 86 = .ok (.istore_n 3, 1) := by decide +kernel
theorem dX4_claim_87 : decode cX4_claim 87 = .ok (.aload_n 0, 1) := by decide +kernel
theorem dX4_claim_88 : decode cX4_claim 88 = .ok (.iload_n 1, 1) := by decide +kernel
theorem dX4_claim_89 : decode cX4_claim 89 = .ok (.invokevirtual 89, 3) := by decide +kernel
theorem dX4_claim_92 : decode cX4_claim 92 = .ok (.istore 4, 2) := by decide +kernel
theorem dX4_claim_94 : decode cX4_claim 94 = .ok (.iload 4, 2) := by decide +kernel
theorem dX4_claim_96 : decode cX4_claim 96 = .ok (.iconst (-1), 1) := by decide +kernel
theorem dX4_claim_97 : decode cX4_claim 97 = .ok (.if_icmp .eq 15, 3) := by decide +kernel
theorem dX4_claim_100 : decode cX4_claim 100 = .ok (.iload 4, 2) := by decide +kernel
theorem dX4_claim_102 : decode cX4_claim 102 = .ok (.bipush 120, 2) := by decide +kernel
theorem dX4_claim_104 : decode cX4_claim 104 = .ok (.if_icmp .ge 8, 3) := by decide +kernel
theorem dX4_claim_107 : decode cX4_claim 107 = .ok (.iconst 0, 1) := by decide +kernel
theorem dX4_claim_108 : decode cX4_claim 108 = .ok (.istore_n 3, 1) := by decide +kernel
theorem dX4_claim_109 : decode cX4_claim 109 = .ok (.goto 21, 3) := by decide +kernel
theorem dX4_claim_112 : decode cX4_claim 112 = .ok (.iload 4, 2) := by decide +kernel
theorem dX4_claim_114 : decode cX4_claim 114 = .ok (.iconst (-1), 1) := by decide +kernel
theorem dX4_claim_115 : decode cX4_claim 115 = .ok (.if_icmp .eq 15, 3) := by decide +kernel
theorem dX4_claim_118 : decode cX4_claim 118 = .ok (.iload 4, 2) := by decide +kernel
theorem dX4_claim_120 : decode cX4_claim 120 = .ok (.sipush 240, 3) := by decide +kernel
theorem dX4_claim_123 : decode cX4_claim 123 = .ok (.if_icmp .ge 7, 3) := by decide +kernel
theorem dX4_claim_126 : decode cX4_claim 126 = .ok (.iload_n 3, 1) := by decide +kernel
theorem dX4_claim_127 : decode cX4_claim 127 = .ok (.iconst 2, 1) := by decide +kernel
theorem dX4_claim_128 : decode cX4_claim 128 = .ok (.idiv, 1) := by decide +kernel
theorem dX4_claim_129 : decode cX4_claim 129 = .ok (.istore_n 3, 1) := by decide +kernel
theorem dX4_claim_130 : decode cX4_claim 130 = .ok (.iload_n 3, 1) := by decide +kernel
theorem dX4_claim_131 : decode cX4_claim 131 = .ok (.aload_n 0, 1) := by decide +kernel
theorem dX4_claim_132 : decode cX4_claim 132 = .ok (.iload_n 1, 1) := by decide +kernel
theorem dX4_claim_133 : decode cX4_claim 133 = .ok (.iconst 1, 1) := by decide +kernel
theorem dX4_claim_134 : decode cX4_claim 134 = .ok (.invokevirtual 70, 3) := by decide +kernel
theorem dX4_claim_137 : decode cX4_claim 137 = .ok (.imul, 1) := by decide +kernel
theorem dX4_claim_138 : decode cX4_claim 138 = .ok (.ireturn, 1) := by decide +kernel
theorem dX4_of_0 : decode cX4_of 0 = .ok (.aload_n 0, 1) := by decide +kernel
theorem dX4_of_1 : decode cX4_of 1 = .ok (.iconst 0, 1) := by decide +kernel
theorem dX4_of_2 : decode cX4_of 2 = .ok (.putfield 52, 3) := by decide +kernel
theorem dX4_of_5 : decode cX4_of 5 = .ok (.aload_n 0, 1) := by decide +kernel
theorem dX4_of_6 : decode cX4_of 6 = .ok (.iload_n 1, 1) := by decide +kernel
theorem dX4_of_7 : decode cX4_of 7 = .ok (.invokevirtual 92, 3) := by decide +kernel
theorem dX4_of_10 : decode cX4_of 10 = .ok (.ifCond .eq 13, 3) := by decide +kernel
theorem dX4_of_13 : decode cX4_of 13 = .ok (.iload_n 2, 1) := by decide +kernel
theorem dX4_of_14 : decode cX4_of 14 = .ok (.iconst 0, 1) := by decide +kernel
theorem dX4_of_15 : decode cX4_of 15 = .ok (.bipush 7, 2) := by decide +kernel
theorem dX4_of_17 : decode cX4_of 17 = .ok (.invokestatic 59, 3) := by decide +kernel
theorem dX4_of_20 : decode cX4_of 20 = .ok (.ifCond .ne 10, 3) := by decide +kernel
theorem dX4_of_23 : decode cX4_of 23 = .ok (.aload_n 0, 1) := by decide +kernel
theorem dX4_of_24 : decode cX4_of 24 = .ok (.iconst 1, 1) := by decide +kernel
theorem dX4_of_25 : decode cX4_of 25 = .ok (.putfield 52, 3) := by decide +kernel
theorem dX4_of_28 : decode cX4_of 28 = .ok (.iconst 0, 1) := by decide +kernel
theorem dX4_of_29 : decode cX4_of 29 = .ok (.ireturn, 1) := by decide +kernel
theorem dX4_of_30 : decode cX4_of 30 = .ok (.iload_n 2, 1) := by decide +kernel
theorem dX4_of_31 : decode cX4_of 31 = .ok (.tableswitch 92 0 6 #[41, 48, 55, 62, 70, 78, 86], 41) := by decide +kernel
theorem dX4_of_72 : decode cX4_of 72 = .ok (.aload_n 0, 1) := by decide +kernel
theorem dX4_of_73 : decode cX4_of 73 = .ok (.iload_n 1, 1) := by decide +kernel
theorem dX4_of_74 : decode cX4_of 74 = .ok (.iconst 5, 1) := by decide +kernel
theorem dX4_of_75 : decode cX4_of 75 = .ok (.invokevirtual 70, 3) := by decide +kernel
theorem dX4_of_78 : decode cX4_of 78 = .ok (.ireturn, 1) := by decide +kernel
theorem dX4_of_79 : decode cX4_of 79 = .ok (.aload_n 0, 1) := by decide +kernel
theorem dX4_of_80 : decode cX4_of 80 = .ok (.iload_n 1, 1) := by decide +kernel
theorem dX4_of_81 : decode cX4_of 81 = .ok (.iconst 0, 1) := by decide +kernel
theorem dX4_of_82 : decode cX4_of 82 = .ok (.invokevirtual 70, 3) := by decide +kernel
theorem dX4_of_85 : decode cX4_of 85 = .ok (.ireturn, 1) := by decide +kernel
theorem dX4_of_86 : decode cX4_of 86 = .ok (.aload_n 0, 1) := by decide +kernel
theorem dX4_of_87 : decode cX4_of 87 = .ok (.iload_n 1, 1) := by decide +kernel
theorem dX4_of_88 : decode cX4_of 88 = .ok (.iconst 1, 1) := by decide +kernel
theorem dX4_of_89 : decode cX4_of 89 = .ok (.invokevirtual 70, 3) := by decide +kernel
theorem dX4_of_92 : decode cX4_of 92 = .ok (.ireturn, 1) := by decide +kernel
theorem dX4_of_93 : decode cX4_of 93 = .ok (.aload_n 0, 1) := by decide +kernel
theorem dX4_of_94 : decode cX4_of 94 = .ok (.iload_n 1, 1) := by decide +kernel
theorem dX4_of_95 : decode cX4_of 95 = .ok (.bipush 6, 2) := by decide +kernel
theorem dX4_of_97 : decode cX4_of 97 = .ok (.invokevirtual 70, 3) := by decide +kernel
theorem dX4_of_100 : decode cX4_of 100 = .ok (.ireturn, 1) := by decide +kernel
theorem dX4_of_101 : decode cX4_of 101 = .ok (.aload_n 0, 1) := by decide +kernel
theorem dX4_of_102 : decode cX4_of 102 = .ok (.iload_n 1, 1) := by decide +kernel
theorem dX4_of_103 : decode cX4_of 103 = .ok (.bipush 7, 2) := by decide +kernel
theorem dX4_of_105 : decode cX4_of 105 = .ok (.invokevirtual 70, 3) := by decide +kernel
theorem dX4_of_108 : decode cX4_of 108 = .ok (.ireturn, 1) := by decide +kernel
theorem dX4_of_109 : decode cX4_of 109 = .ok (.aload_n 0, 1) := by decide +kernel
theorem dX4_of_110 : decode cX4_of 110 = .ok (.iload_n 1, 1) := by decide +kernel
theorem dX4_of_111 : decode cX4_of 111 = .ok (.bipush 8, 2) := by decide +kernel
theorem dX4_of_113 : decode cX4_of 113 = .ok (.invokevirtual 70, 3) := by decide +kernel
theorem dX4_of_116 : decode cX4_of 116 = .ok (.ireturn, 1) := by decide +kernel
theorem dX4_of_117 : decode cX4_of 117 = .ok (.aload_n 0, 1) := by decide +kernel
theorem dX4_of_118 : decode cX4_of 118 = .ok (.iload_n 1, 1) := by decide +kernel
theorem dX4_of_119 : decode cX4_of 119 = .ok (.invokevirtual 89, 3) := by decide +kernel
theorem dX4_of_122 : decode cX4_of 122 = .ok (.ireturn, 1) := by decide +kernel
theorem dX4_of_123 : decode cX4_of 123 = .ok (.aload_n 0, 1) := by decide +kernel
theorem dX4_of_124 : decode cX4_of 124 = .ok (.iload_n 1, 1) := by decide +kernel
theorem dX4_of_125 : decode cX4_of 125 = .ok (.invokevirtual 95, 3) := by decide +kernel
theorem dX4_of_128 : decode cX4_of 128 = .ok (.ireturn, 1) := by decide +kernel
theorem dX4_count_0 : decode cX4_count 0 = .ok (.aload_n 0, 1) := by decide +kernel
theorem dX4_count_1 : decode cX4_count 1 = .ok (.iconst 0, 1) := by decide +kernel
theorem dX4_count_2 : decode cX4_count 2 = .ok (.putfield 52, 3) := by decide +kernel
theorem dX4_count_5 : decode cX4_count 5 = .ok (.iload_n 1, 1) := by decide +kernel
theorem dX4_count_6 : decode cX4_count 6 = .ok (.ifCond .ne 8, 3) := by decide +kernel
theorem dX4_count_9 : decode cX4_count 9 = .ok (.aload_n 0, 1) := by decide +kernel
theorem dX4_count_10 : decode cX4_count 10 = .ok (.getfield 56, 3) := by decide +kernel
theorem dX4_count_13 : decode cX4_count 13 = .ok (.ireturn, 1) := by decide +kernel
theorem dX4_count_14 : decode cX4_count 14 = .ok (.iload_n 1, 1) := by decide +kernel
theorem dX4_count_15 : decode cX4_count 15 = .ok (.iconst 1, 1) := by decide +kernel
theorem dX4_count_16 : decode cX4_count 16 = .ok (.if_icmp .ne 8, 3) := by decide +kernel
theorem dX4_count_19 : decode cX4_count 19 = .ok (.aload_n 0, 1) := by decide +kernel
theorem dX4_count_20 : decode cX4_count 20 = .ok (.getfield 63, 3) := by decide +kernel
theorem dX4_count_23 : decode cX4_count 23 = .ok (.ireturn, 1) := by decide +kernel
theorem dX4_count_24 : decode cX4_count 24 = .ok (.iload_n 1, 1) := by decide +kernel
theorem dX4_count_25 : decode cX4_count 25 = .ok (.iconst 2, 1) := by decide +kernel
theorem dX4_count_26 : decode cX4_count 26 = .ok (.bipush 6, 2) := by decide +kernel
theorem dX4_count_28 : decode cX4_count 28 = .ok (.invokestatic 59, 3) := by decide +kernel
theorem dX4_count_31 : decode cX4_count 31 = .ok (.ifCond .ne 5, 3) := by decide +kernel
theorem dX4_count_34 : decode cX4_count 34 = .ok (.iconst (-1), 1) := by decide +kernel
theorem dX4_count_35 : decode cX4_count 35 = .ok (.ireturn, 1) := by decide +kernel
theorem dX4_count_36 : decode cX4_count 36 = .ok (.iconst 0, 1) := by decide +kernel
theorem dX4_count_37 : decode cX4_count 37 = .ok (.istore_n 2, 1) := by decide +kernel
theorem dX4_count_38 : decode cX4_count 38 = .ok (.iconst 0, 1) := by decide +kernel
theorem dX4_count_39 : decode cX4_count 39 = .ok (.istore_n 3, 1) := by decide +kernel
theorem dX4_count_40 : decode cX4_count 40 = .ok (.iload_n 3, 1) := by decide +kernel
theorem dX4_count_41 : decode cX4_count 41 = .ok (.aload_n 0, 1) := by decide +kernel
theorem dX4_count_42 : decode cX4_count 42 = .ok (.getfield 63, 3) := by decide +kernel
theorem dX4_count_45 : decode cX4_count 45 = .ok (.if_icmp .ge 120, 3) := by decide +kernel
theorem dX4_count_48 : decode cX4_count 48 = .ok (.aload_n 0, 1) := by decide +kernel
theorem dX4_count_49 : decode cX4_count 49 = .ok (.iload_n 3, 1) := by decide +kernel
theorem dX4_count_50 : decode cX4_count 50 = .ok (.iconst 5, 1) := by decide +kernel
theorem dX4_count_51 : decode cX4_count 51 = .ok (.invokevirtual 70, 3) := by decide +kernel
theorem dX4_count_54 : decode cX4_count 54 = .ok (.istore 4, 2) := by decide +kernel
theorem dX4_count_56 : decode cX4_count 56 = .ok (.iload_n 1, 1) := by decide +kernel
theorem dX4_count_57 : decode cX4_count 57 = .ok (.iconst 2, 1) := by decide +kernel
theorem dX4_count_58 : decode cX4_count 58 = .ok (.if_icmp .ne 23, 3) := by decide +kernel
theorem dX4_count_61 : decode cX4_count 61 = .ok (.iload 4, 2) := by decide +kernel
theorem dX4_count_63 : decode cX4_count 63 = .ok (.ifCond .ne 18, 3) := by decide +kernel
theorem dX4_count_66 : decode cX4_count 66 = .ok (.aload_n 0, 1) := by decide +kernel
theorem dX4_count_67 : decode cX4_count 67 = .ok (.aload_n 0, 1) := by decide +kernel
theorem dX4_count_68 : decode cX4_count 68 = .ok (.iload_n 3, 1) := by decide +kernel
theorem dX4_count_69 : decode cX4_count 69 = .ok (.iconst 0, 1) := by decide +kernel
theorem dX4_count_70 : decode cX4_count 70 = .ok (.invokevirtual 70, 3) := by decide +kernel
theorem dX4_count_73 : decode cX4_count 73 = .ok (.bipush 6, 2) := by decide +kernel
theorem dX4_count_75 : decode cX4_count 75 = .ok (.invokevirtual 74, 3) := by decide +kernel
theorem dX4_count_78 : decode cX4_count 78 = .ok (.ifCond .eq 46, 3) := by decide +kernel
theorem dX4_count_81 : decode cX4_count 81 = .ok (.iload_n 1, 1) := by decide +kernel
theorem dX4_count_82 : decode cX4_count 82 = .ok (.iconst 3, 1) := by decide +kernel
theorem dX4_count_83 : decode cX4_count 83 = .ok (.if_icmp .ne 9, 3) := by decide +kernel
theorem dX4_count_86 : decode cX4_count 86 = .ok (.iload 4, 2) := by decide +kernel
theorem dX4_count_88 : decode cX4_count 88 = .ok (.iconst 1, 1) := by decide +kernel
theorem dX4_count_89 : decode cX4_count 89 = .ok (.if_icmp .eq 35, 3) := by decide +kernel
theorem dX4_count_92 : decode cX4_count 92 = .ok (.iload_n 1, 1) := by decide +kernel
theorem dX4_count_93 : decode cX4_count 93 = .ok (.iconst 4, 1) := by decide +kernel
theorem dX4_count_94 : decode cX4_count 94 = .ok (.if_icmp .ne 9, 3) := by decide +kernel
theorem dX4_count_97 : decode cX4_count 97 = .ok (.iload 4, 2) := by decide +kernel
theorem dX4_count_99 : decode cX4_count 99 = .ok (.iconst 2, 1) := by decide +kernel
theorem dX4_count_100 : decode cX4_count 100 = .ok (.if_icmp .eq 24, 3) := by decide +kernel
theorem dX4_count_103 : decode cX4_count 103 = .ok (.iload_n 1, 1) := by decide +kernel
theorem dX4_count_104 : decode cX4_count 104 = .ok (.iconst 5, 1) := by decide +kernel
theorem dX4_count_105 : decode cX4_count 105 = .ok (.if_icmp .ne 23, 3) := by decide +kernel
theorem dX4_count_108 : decode cX4_count 108 = .ok (.iload 4, 2) := by decide +kernel
theorem dX4_count_110 : decode cX4_count 110 = .ok (.ifCond .le 18, 3) := by decide +kernel
theorem dX4_count_113 : decode cX4_count 113 = .ok (.aload_n 0, 1) := by decide +kernel
theorem dX4_count_114 : decode cX4_count 114 = .ok (.iload_n 3, 1) := by decide +kernel
theorem dX4_count_115 : decode cX4_count 115 = .ok (.bipush 7, 2) := by decide +kernel
theorem dX4_count_117 : decode cX4_count 117 = .ok (.invokevirtual 70, 3) := by decide +kernel
theorem dX4_count_120 : decode cX4_count 120 = .ok (.iconst (-1), 1) := by decide +kernel
theorem dX4_count_121 : decode cX4_count 121 = .ok (.if_icmp .eq 7, 3) := by decide +kernel
theorem dX4_count_124 : decode cX4_count 124 = .ok (.iconst 1, 1) := by decide +kernel
theorem dX4_count_125 : decode cX4_count 125 = .ok (.goto 4, 3) := by decide +kernel
theorem dX4_count_128 : decode cX4_count 128 = .ok (.iconst 0, 1) := by decide +kernel
theorem dX4_count_129 : decode cX4_count 129 = .ok (.istore 5, 2) := by decide +kernel
theorem dX4_count_131 : decode cX4_count 131 = .ok (.iload 5, 2) := by decide +kernel
theorem dX4_count_133 : decode cX4_count 133 = .ok (.ifCond .eq 12, 3) := by decide +kernel
theorem dX4_count_136 : decode cX4_count 136 = .ok (.iload_n 2, 1) := by decide +kernel
theorem dX4_count_137 : decode cX4_count 137 = .ok (.aload_n 0, 1) := by decide +kernel
theorem dX4_count_138 : decode cX4_count 138 = .ok (.iload_n 3, 1) := by decide +kernel
theorem dX4_count_139 : decode cX4_count 139 = .ok (.iconst 1, 1) := by decide +kernel
theorem dX4_count_140 : decode cX4_count 140 = .ok (.invokevirtual 70, 3) := by decide +kernel
theorem dX4_count_143 : decode cX4_count 143 = .ok (.iadd, 1) := by decide +kernel
theorem dX4_count_144 : decode cX4_count 144 = .ok (.istore_n 2, 1) := by decide +kernel
theorem dX4_count_145 : decode cX4_count 145 = .ok (.iload_n 1, 1) := by decide +kernel
theorem dX4_count_146 : decode cX4_count 146 = .ok (.bipush 6, 2) := by decide +kernel
theorem dX4_count_148 : decode cX4_count 148 = .ok (.if_icmp .ne 11, 3) := by decide +kernel
theorem dX4_count_151 : decode cX4_count 151 = .ok (.iload_n 2, 1) := by decide +kernel
theorem dX4_count_152 : decode cX4_count 152 = .ok (.aload_n 0, 1) := by decide +kernel
theorem dX4_count_153 : decode cX4_count 153 = .ok (.iload_n 3, 1) := by decide +kernel
theorem dX4_count_154 : decode cX4_count 154 = .ok (.invokevirtual 95, 3) := by decide +kernel
theorem dX4_count_157 : decode cX4_count 157 = .ok (.iadd, 1) := by decide +kernel
theorem dX4_count_158 : decode cX4_count 158 = .ok (.istore_n 2, 1) := by decide +kernel
theorem dX4_count_159 : decode cX4_count 159 = .ok (.iinc 3 1, 3) := by decide +kernel
theorem dX4_count_162 : decode cX4_count 162 = .ok (.goto (-122), 3) := by decide +kernel
theorem dX4_count_165 : decode cX4_count 165 = .ok (.iload_n 2, 1) := by decide +kernel
theorem dX4_count_166 : decode cX4_count 166 = .ok (.ireturn, 1) := by decide +kernel
theorem dX4_mayGive_0 : decode cX4_mayGive 0 = .ok (.aload_n 0, 1) := by decide +kernel
theorem dX4_mayGive_1 : decode cX4_mayGive 1 = .ok (.iload_n 1, 1) := by decide +kernel
theorem dX4_mayGive_2 : decode cX4_mayGive 2 = .ok (.iconst 0, 1) := by decide +kernel
theorem dX4_mayGive_3 : decode cX4_mayGive 3 = .ok (.invokevirtual 70, 3) := by decide +kernel
theorem dX4_mayGive_6 : decode cX4_mayGive 6 = .ok (.iload_n 2, 1) := by decide +kernel
theorem dX4_mayGive_7 : decode cX4_mayGive 7 = .ok (.if_icmp .ne 35, 3) := by decide +kernel
theorem dX4_mayGive_10 : decode cX4_mayGive 10 = .ok (.aload_n 0, 1) := by decide +kernel
theorem dX4_mayGive_11 : decode cX4_mayGive 11 = .ok (.iload_n 1, 1) := by decide +kernel
theorem dX4_mayGive_12 : decode cX4_mayGive 12 = .ok (.iconst 5, 1) := by decide +kernel
theorem dX4_mayGive_13 : decode cX4_mayGive 13 = .ok (.invokevirtual 70, 3) := by decide +kernel
theorem dX4_mayGive_16 : decode cX4_mayGive 16 = .ok (.ifCond .ne 26, 3) := by decide +kernel
theorem dX4_mayGive_19 : decode cX4_mayGive 19 = .ok (.aload_n 0, 1) := by decide +kernel
theorem dX4_mayGive_20 : decode cX4_mayGive 20 = .ok (.iload_n 1, 1) := by decide +kernel
theorem dX4_mayGive_21 : decode cX4_mayGive 21 = .ok (.iconst 3, 1) := by decide +kernel
theorem dX4_mayGive_22 : decode cX4_mayGive 22 = .ok (.invokevirtual 70, 3) := by decide +kernel
theorem dX4_mayGive_25 : decode cX4_mayGive 25 = .ok (.iconst (-1), 1) := by decide +kernel
theorem dX4_mayGive_26 : decode cX4_mayGive 26 = .ok (.if_icmp .eq 16, 3) := by decide +kernel
theorem dX4_mayGive_29 : decode cX4_mayGive 29 = .ok (.aload_n 0, 1) := by decide +kernel
theorem dX4_mayGive_30 : decode cX4_mayGive 30 = .ok (.iload_n 1, 1) := by decide +kernel
theorem dX4_mayGive_31 : decode cX4_mayGive 31 = .ok (.iconst 4, 1) := by decide +kernel
theorem dX4_mayGive_32 : decode cX4_mayGive 32 = .ok (.invokevirtual 70, 3) := by decide +kernel
theorem dX4_mayGive_35 : decode cX4_mayGive 35 = .ok (.ifCond .ne 7, 3) := by decide +kernel
theorem dX4_mayGive_38 : decode cX4_mayGive 38 = .ok (.iconst 1, 1) := by decide +kernel
theorem dX4_mayGive_39 : decode cX4_mayGive 39 = .ok (.goto 4, 3) := by decide +kernel
theorem dX4_mayGive_42 : decode cX4_mayGive 42 = .ok (.iconst 0, 1) := by decide +kernel
theorem dX4_mayGive_43 : decode cX4_mayGive 43 = .ok (.ireturn, 1) := by decide +kernel
theorem dX4_findBest_0 : decode cX4_findBest 0 = .ok (.iconst 0, 1) := by decide +kernel
theorem dX4_findBest_1 : decode cX4_findBest 1 = .ok (.istore_n 2, 1) := by decide +kernel
theorem dX4_findBest_2 : decode cX4_findBest 2 = .ok (.iload_n 2, 1) := by decide +kernel
theorem dX4_findBest_3 : decode cX4_findBest 3 = .ok (.bipush 121, 2) := by decide +kernel
theorem dX4_findBest_5 : decode cX4_findBest 5 = .ok (.if_icmp .ge 32, 3) := by decide +kernel
theorem dX4_findBest_8 : decode cX4_findBest 8 = .ok (.aload_n 0, 1) := by decide +kernel
theorem dX4_findBest_9 : decode cX4_findBest 9 = .ok (.getfield 19, 3) := by decide +kernel
theorem dX4_findBest_12 : decode cX4_findBest 12 = .ok (.iload_n 2, 1) := by decide +kernel
theorem dX4_findBest_13 : decode cX4_findBest 13 = .ok (.iload_n 2, 1) := by decide +kernel
theorem dX4_findBest_14 : decode cX4_findBest 14 = .ok (.ifCond .ne 7, 3) := by decide +kernel
theorem dX4_findBest_17 : decode cX4_findBest 17 = .ok (.iconst 0, 1) := by decide +kernel
theorem dX4_findBest_18 : decode cX4_findBest 18 = .ok (.goto 5, 3) := by decide +kernel
theorem dX4_findBest_21 : decode cX4_findBest 21 = .ok (.ldc 98, 2) := by decide +kernel
theorem dX4_findBest_23 : decode cX4_findBest 23 = .ok (.iastore, 1) := by decide +kernel
theorem dX4_findBest_24 : decode cX4_findBest 24 = .ok (.aload_n 0, 1) := by decide +kernel
theorem dX4_findBest_25 : decode cX4_findBest 25 = .ok (.getfield 22, 3) := by decide +kernel
theorem dX4_findBest_28 : decode cX4_findBest 28 = .ok (.iload_n 2, 1) := by decide +kernel
theorem dX4_findBest_29 : decode cX4_findBest 29 = .ok (.iconst 0, 1) := by decide +kernel
theorem dX4_findBest_30 : decode cX4_findBest 30 = .ok (.iastore, 1) := by decide +kernel
theorem dX4_findBest_31 : decode cX4_findBest 31 = .ok (.iinc 2 1, 3) := by decide +kernel
theorem dX4_findBest_34 : decode cX4_findBest 34 = .ok (.goto (-32), 3) := by decide +kernel
theorem dX4_findBest_37 : decode cX4_findBest 37 = .ok (.iconst 0, 1) := by decide +kernel
theorem dX4_findBest_38 : decode cX4_findBest 38 = .ok (.istore_n 2, 1) := by decide +kernel
theorem dX4_findBest_39 : decode cX4_findBest 39 = .ok (.iload_n 2, 1) := by decide +kernel
theorem dX4_findBest_40 : decode cX4_findBest 40 = .ok (.aload_n 0, 1) := by decide +kernel
theorem dX4_findBest_41 : decode cX4_findBest 41 = .ok (.getfield 63, 3) := by decide +kernel
theorem dX4_findBest_44 : decode cX4_findBest 44 = .ok (.if_icmp .ge 153, 3) := by decide +kernel
theorem dX4_findBest_47 : decode cX4_findBest 47 = .ok (.aload_n 0, 1) := by decide +kernel
theorem dX4_findBest_48 : decode cX4_findBest 48 = .ok (.iload_n 2, 1) := by decide +kernel
theorem dX4_findBest_49 : decode cX4_findBest 49 = .ok (.iload_n 1, 1) := by decide +kernel
theorem dX4_findBest_50 : decode cX4_findBest 50 = .ok (.invokevirtual 99, 3) := by decide +kernel
theorem dX4_findBest_53 : decode cX4_findBest 53 = .ok (.ifCond .ne 6, 3) := by decide +kernel
theorem dX4_findBest_56 : decode cX4_findBest 56 = .ok (.goto 135, 3) := by decide +kernel
theorem dX4_findBest_59 : decode cX4_findBest 59 = .ok (.aload_n 0, 1) := by decide +kernel
theorem dX4_findBest_60 : decode cX4_findBest 60 = .ok (.iload_n 2, 1) := by decide +kernel
theorem dX4_findBest_61 : decode cX4_findBest 61 = .ok (.iconst 1, 1) := by decide +kernel
theorem dX4_findBest_62 : decode cX4_findBest 62 = .ok (.invokevirtual 70, 3) := by decide +kernel
theorem dX4_findBest_65 : decode cX4_findBest 65 = .ok (.istore_n 3, 1) := by decide +kernel
theorem dX4_findBest_66 : decode cX4_findBest 66 = .ok (.bipush 120, 2) := by decide +kernel
theorem dX4_findBest_68 : decode cX4_findBest 68 = .ok (.istore 4, 2) := by decide +kernel
theorem dX4_findBest_70 : decode cX4_findBest 70 = .ok (.iload 4, 2) := by decide +kernel
theorem dX4_findBest_72 : decode cX4_findBest 72 = .ok (.iload_n 3, 1) := by decide +kernel
theorem dX4_findBest_73 : decode cX4_findBest 73 = .ok (.if_icmp .lt 118, 3) := by decide +kernel
theorem dX4_findBest_76 : decode cX4_findBest 76 = .ok (.aload_n 0, 1) := by decide +kernel
theorem dX4_findBest_77 : decode cX4_findBest 77 = .ok (.getfield 19, 3) := by decide +kernel
theorem dX4_findBest_80 : decode cX4_findBest 80 = .ok (.iload 4, 2) := by decide +kernel
theorem dX4_findBest_82 : decode cX4_findBest 82 = .ok (.iload_n 3, 1) := by decide +kernel
theorem dX4_findBest_83 : decode cX4_findBest 83 = .ok (.isub, 1) := by decide +kernel
theorem dX4_findBest_84 : decode cX4_findBest 84 = .ok (.iaload, 1) := by decide +kernel
theorem dX4_findBest_85 : decode cX4_findBest 85 = .ok (.ldc 98, 2) := by decide +kernel
theorem dX4_findBest_87 : decode cX4_findBest 87 = .ok (.if_icmp .ne 6, 3) := by decide +kernel
theorem dX4_findBest_90 : decode cX4_findBest 90 = .ok (.goto 95, 3) := by decide +kernel
theorem dX4_findBest_93 : decode cX4_findBest 93 = .ok (.aload_n 0, 1) := by decide +kernel
theorem dX4_findBest_94 : decode cX4_findBest 94 = .ok (.getfield 19, 3) := by decide +kernel
theorem dX4_findBest_97 : decode cX4_findBest 97 = .ok (.iload 4, 2) := by decide +kernel
theorem dX4_findBest_99 : decode cX4_findBest 99 = .ok (.iload_n 3, 1) := by decide +kernel
theorem dX4_findBest_100 : decode cX4_findBest 100 = .ok (.isub, 1) := by decide +kernel
theorem dX4_findBest_101 : decode cX4_findBest 101 = .ok (.iaload, 1) := by decide +kernel
theorem dX4_findBest_102 : decode cX4_findBest 102 = .ok (.aload_n 0, 1) := by decide +kernel
theorem dX4_findBest_103 : decode cX4_findBest 103 = .ok (.iload_n 2, 1) := by decide +kernel
theorem dX4_findBest_104 : decode cX4_findBest 104 = .ok (.iconst 3, 1) := by decide +kernel
theorem dX4_findBest_105 : decode cX4_findBest 105 = .ok (.invokevirtual 70, 3) := by decide +kernel
theorem dX4_findBest_108 : decode cX4_findBest 108 = .ok (.iload_n 3, 1) := by decide +kernel
theorem dX4_findBest_109 : decode cX4_findBest 109 = .ok (.imul, 1) := by decide +kernel
theorem dX4_findBest_110 : decode cX4_findBest 110 = .ok (.iadd, 1) := by decide +kernel
theorem dX4_findBest_111 : decode cX4_findBest 111 = .ok (.istore 5, 2) := by decide +kernel
theorem dX4_findBest_113 : decode cX4_findBest 113 = .ok (.aload_n 0, 1) := by decide +kernel
theorem dX4_findBest_114 : decode cX4_findBest 114 = .ok (.getfield 22, 3) := by decide +kernel
theorem dX4_findBest_117 : decode cX4_findBest 117 = .ok (.iload 4, 2) := by decide +kernel
theorem dX4_findBest_119 : decode cX4_findBest 119 = .ok (.iload_n 3, 1) := by decide +kernel
theorem dX4_findBest_120 : decode cX4_findBest 120 = .ok (.isub, 1) := by decide +kernel
theorem dX4_findBest_121 : decode cX4_findBest 121 = .ok (.iaload, 1) := by decide +kernel
theorem dX4_findBest_122 : decode cX4_findBest 122 = .ok (.iconst 1, 1) := by decide +kernel
theorem dX4_findBest_123 : decode cX4_findBest 123 = .ok (.iload_n 2, 1) := by decide +kernel
theorem dX4_findBest_124 : decode cX4_findBest 124 = .ok (.ishl, 1) := by decide +kernel
theorem dX4_findBest_125 : decode cX4_findBest 125 = .ok (.ior, 1) := by decide +kernel
theorem dX4_findBest_126 : decode cX4_findBest 126 = .ok (.istore 6, 2) := by decide +kernel
theorem dX4_findBest_128 : decode cX4_findBest 128 = .ok (.iload 5, 2) := by decide +kernel
theorem dX4_findBest_130 : decode cX4_findBest 130 = .ok (.aload_n 0, 1) := by decide +kernel
theorem dX4_findBest_131 : decode cX4_findBest 131 = .ok (.getfield 19, 3) := by decide +kernel
theorem dX4_findBest_134 : decode cX4_findBest 134 = .ok (.iload 4, 2) := by decide +kernel
theorem dX4_findBest_136 : decode cX4_findBest 136 = .ok (.iaload, 1) := by decide +kernel
theorem dX4_findBest_137 : decode cX4_findBest 137 = .ok (.if_icmp .gt 48, 3) := by decide +kernel
theorem dX4_findBest_140 : decode cX4_findBest 140 = .ok (.iload 5, 2) := by decide +kernel
theorem dX4_findBest_142 : decode cX4_findBest 142 = .ok (.aload_n 0, 1) := by decide +kernel
theorem dX4_findBest_143 : decode cX4_findBest 143 = .ok (.getfield 19, 3) := by decide +kernel
theorem dX4_findBest_146 : decode cX4_findBest 146 = .ok (.iload 4, 2) := by decide +kernel
theorem dX4_findBest_148 : decode cX4_findBest 148 = .ok (.iaload, 1) := by decide +kernel
theorem dX4_findBest_149 : decode cX4_findBest 149 = .ok (.if_icmp .ne 18, 3) := by decide +kernel
theorem dX4_findBest_152 : decode cX4_findBest 152 = .ok (.iload 6, 2) := by decide +kernel
theorem dX4_findBest_154 : decode cX4_findBest 154 = .ok (.aload_n 0, 1) := by decide +kernel
theorem dX4_findBest_155 : decode cX4_findBest 155 = .ok (.getfield 22, 3) := by decide +kernel
theorem dX4_findBest_158 : decode cX4_findBest 158 = .ok (.iload 4, 2) := by decide +kernel
theorem dX4_findBest_160 : decode cX4_findBest 160 = .ok (.iaload, 1) := by decide +kernel
theorem dX4_findBest_161 : decode cX4_findBest 161 = .ok (.if_icmp .lt 6, 3) := by decide +kernel
theorem dX4_findBest_164 : decode cX4_findBest 164 = .ok (.goto 21, 3) := by decide +kernel
theorem dX4_findBest_167 : decode cX4_findBest 167 = .ok (.aload_n 0, 1) := by decide +kernel
theorem dX4_findBest_168 : decode cX4_findBest 168 = .ok (.getfield 19, 3) := by decide +kernel
theorem dX4_findBest_171 : decode cX4_findBest 171 = .ok (.iload 4, 2) := by decide +kernel
theorem dX4_findBest_173 : decode cX4_findBest 173 = .ok (.iload 5, 2) := by decide +kernel
theorem dX4_findBest_175 : decode cX4_findBest 175 = .ok (.iastore, 1) := by decide +kernel
theorem dX4_findBest_176 : decode cX4_findBest 176 = .ok (.aload_n 0, 1) := by decide +kernel
theorem dX4_findBest_177 : decode cX4_findBest 177 = .ok (.getfield 22, 3) := by decide +kernel
theorem dX4_findBest_180 : decode cX4_findBest 180 = .ok (.iload 4, 2) := by decide +kernel
theorem dX4_findBest_182 : decode cX4_findBest 182 = .ok (.iload 6, 2) := by decide +kernel
theorem dX4_findBest_184 : decode cX4_findBest 184 = .ok (.iastore, 1) := by decide +kernel
theorem dX4_findBest_185 : decode cX4_findBest 185 = .ok (.iinc 4 (-1), 3) := by decide +kernel
theorem dX4_findBest_188 : decode cX4_findBest 188 = .ok (.goto (-118), 3) := by decide +kernel
theorem dX4_findBest_191 : decode cX4_findBest 191 = .ok (.iinc 2 1, 3) := by decide +kernel
theorem dX4_findBest_194 : decode cX4_findBest 194 = .ok (.goto (-155), 3) := by decide +kernel
theorem dX4_findBest_197 : decode cX4_findBest 197 = .ok (.iconst (-1), 1) := by decide +kernel
theorem dX4_findBest_198 : decode cX4_findBest 198 = .ok (.istore_n 2, 1) := by decide +kernel
theorem dX4_findBest_199 : decode cX4_findBest 199 = .ok (.aload_n 0, 1) := by decide +kernel
theorem dX4_findBest_200 : decode cX4_findBest 200 = .ok (.iload_n 1, 1) := by decide +kernel
theorem dX4_findBest_201 : decode cX4_findBest 201 = .ok (.invokevirtual 86, 3) := by decide +kernel
theorem dX4_findBest_204 : decode cX4_findBest 204 = .ok (.istore_n 3, 1) := by decide +kernel
theorem dX4_findBest_205 : decode cX4_findBest 205 = .ok (.iload_n 3, 1) := by decide +kernel
theorem dX4_findBest_206 : decode cX4_findBest 206 = .ok (.bipush 121, 2) := by decide +kernel
theorem dX4_findBest_208 : decode cX4_findBest 208 = .ok (.if_icmp .ge 42, 3) := by decide +kernel
theorem dX4_findBest_211 : decode cX4_findBest 211 = .ok (.aload_n 0, 1) := by decide +kernel
theorem dX4_findBest_212 : decode cX4_findBest 212 = .ok (.getfield 19, 3) := by decide +kernel
theorem dX4_findBest_215 : decode cX4_findBest 215 = .ok (.iload_n 3, 1) := by decide +kernel
theorem dX4_findBest_216 : decode cX4_findBest 216 = .ok (.iaload, 1) := by decide +kernel
theorem dX4_findBest_217 : decode cX4_findBest 217 = .ok (.ldc 98, 2) := by decide +kernel
theorem dX4_findBest_219 : decode cX4_findBest 219 = .ok (.if_icmp .ge 25, 3) := by decide +kernel
theorem dX4_findBest_222 : decode cX4_findBest 222 = .ok (.iload_n 2, 1) := by decide +kernel
theorem dX4_findBest_223 : decode cX4_findBest 223 = .ok (.iconst (-1), 1) := by decide +kernel
theorem dX4_findBest_224 : decode cX4_findBest 224 = .ok (.if_icmp .eq 18, 3) := by decide +kernel
theorem dX4_findBest_227 : decode cX4_findBest 227 = .ok (.aload_n 0, 1) := by decide +kernel
theorem dX4_findBest_228 : decode cX4_findBest 228 = .ok (.getfield 19, 3) := by decide +kernel
theorem dX4_findBest_231 : decode cX4_findBest 231 = .ok (.iload_n 3, 1) := by decide +kernel
theorem dX4_findBest_232 : decode cX4_findBest 232 = .ok (.iaload, 1) := by decide +kernel
theorem dX4_findBest_233 : decode cX4_findBest 233 = .ok (.aload_n 0, 1) := by decide +kernel
theorem dX4_findBest_234 : decode cX4_findBest 234 = .ok (.getfield 19, 3) := by decide +kernel
theorem dX4_findBest_237 : decode cX4_findBest 237 = .ok (.iload_n 2, 1) := by decide +kernel
theorem dX4_findBest_238 : decode cX4_findBest 238 = .ok (.iaload, 1) := by decide +kernel
theorem dX4_findBest_239 : decode cX4_findBest 239 = .ok (.if_icmp .ge 5, 3) := by decide +kernel
theorem dX4_findBest_242 : decode cX4_findBest 242 = .ok (.iload_n 3, 1) := by decide +kernel
theorem dX4_findBest_243 : decode cX4_findBest 243 = .ok (.istore_n 2, 1) := by decide +kernel
theorem dX4_findBest_244 : decode cX4_findBest 244 = .ok (.iinc 3 1, 3) := by decide +kernel
theorem dX4_findBest_247 : decode cX4_findBest 247 = .ok (.goto (-42), 3) := by decide +kernel
theorem dX4_findBest_250 : decode cX4_findBest 250 = .ok (.iload_n 2, 1) := by decide +kernel
theorem dX4_findBest_251 : decode cX4_findBest 251 = .ok (.ireturn, 1) := by decide +kernel
theorem dX4_cost_0 : decode cX4_cost 0 = .ok (.aload_n 0, 1) := by decide +kernel
theorem dX4_cost_1 : decode cX4_cost 1 = .ok (.iconst 0, 1) := by decide +kernel
theorem dX4_cost_2 : decode cX4_cost 2 = .ok (.putfield 52, 3) := by decide +kernel
theorem dX4_cost_5 : decode cX4_cost 5 = .ok (.aload_n 0, 1) := by decide +kernel
theorem dX4_cost_6 : decode cX4_cost 6 = .ok (.iload_n 1, 1) := by decide +kernel
theorem dX4_cost_7 : decode cX4_cost 7 = .ok (.invokevirtual 66, 3) := by decide +kernel
theorem dX4_cost_10 : decode cX4_cost 10 = .ok (.ifCond .ne 5, 3) := by decide +kernel
theorem dX4_cost_13 : decode cX4_cost 13 = .ok (.iconst (-1), 1) := by decide +kernel
theorem dX4_cost_14 : decode cX4_cost 14 = .ok (.ireturn, 1) := by decide +kernel
theorem dX4_cost_15 : decode cX4_cost 15 = .ok (.aload_n 0, 1) := by decide +kernel
theorem dX4_cost_16 : decode cX4_cost 16 = .ok (.iload_n 1, 1) := by decide +kernel
theorem dX4_cost_17 : decode cX4_cost 17 = .ok (.invokevirtual 103, 3) := by decide +kernel
theorem dX4_cost_20 : decode cX4_cost 20 = .ok (.istore_n 2, 1) := by decide +kernel
theorem dX4_cost_21 : decode cX4_cost 21 = .ok (.iload_n 2, 1) := by decide +kernel
theorem dX4_cost_22 : decode cX4_cost 22 = .ok (.iconst (-1), 1) := by decide +kernel
theorem dX4_cost_23 : decode cX4_cost 23 = .ok (.if_icmp .ne 8, 3) := by decide +kernel
theorem dX4_cost_26 : decode cX4_cost 26 = .ok (.bipush (-2), 2) := by decide +kernel
theorem dX4_cost_28 : decode cX4_cost 28 = .ok (.goto 9, 3) := by decide +kernel
theorem dX4_cost_31 : decode cX4_cost 31 = .ok (.aload_n 0, 1) := by decide +kernel
theorem dX4_cost_32 : decode cX4_cost 32 = .ok (.getfield 19, 3) := by decide +kernel
theorem dX4_cost_35 : decode cX4_cost 35 = .ok (.iload_n 2, 1) := by decide +kernel
theorem dX4_cost_36 : decode cX4_cost 36 = .ok (.iaload, 1) := by decide +kernel
theorem dX4_cost_37 : decode cX4_cost 37 = .ok (.ireturn, 1) := by decide +kernel
theorem dX4_give_0 : decode cX4_give 0 = .ok (.aload_n 0, 1) := by decide +kernel
theorem dX4_give_1 : decode cX4_give 1 = .ok (.iload_n 1, 1) := by decide +kernel
theorem dX4_give_2 : decode cX4_give 2 = .ok (.iconst 5, 1) := by decide +kernel
theorem dX4_give_3 : decode cX4_give 3 = .ok (.iconst 1, 1) := by decide +kernel
theorem dX4_give_4 : decode cX4_give 4 = .ok (.invokevirtual 106, 3) := by decide +kernel
theorem dX4_give_7 : decode cX4_give 7 = .ok (.aload_n 0, 1) := by decide +kernel
theorem dX4_give_8 : decode cX4_give 8 = .ok (.iload_n 1, 1) := by decide +kernel
theorem dX4_give_9 : decode cX4_give 9 = .ok (.bipush 6, 2) := by decide +kernel
theorem dX4_give_11 : decode cX4_give 11 = .ok (.iload_n 2, 1) := by decide +kernel
theorem dX4_give_12 : decode cX4_give 12 = .ok (.invokevirtual 106, 3) := by decide +kernel
theorem dX4_give_15 : decode cX4_give 15 = .ok (.aload_n 0, 1) := by decide +kernel
theorem dX4_give_16 : decode cX4_give 16 = .ok (.iload_n 1, 1) := by decide +kernel
theorem dX4_give_17 : decode cX4_give 17 = .ok (.bipush 7, 2) := by decide +kernel
theorem dX4_give_19 : decode cX4_give 19 = .ok (.iconst (-1), 1) := by decide +kernel
theorem dX4_give_20 : decode cX4_give 20 = .ok (.invokevirtual 106, 3) := by decide +kernel
theorem dX4_give_23 : decode cX4_give 23 = .ok (.aload_n 0, 1) := by decide +kernel
theorem dX4_give_24 : decode cX4_give 24 = .ok (.iload_n 1, 1) := by decide +kernel
theorem dX4_give_25 : decode cX4_give 25 = .ok (.bipush 8, 2) := by decide +kernel
theorem dX4_give_27 : decode cX4_give 27 = .ok (.iconst (-1), 1) := by decide +kernel
theorem dX4_give_28 : decode cX4_give 28 = .ok (.invokevirtual 106, 3) := by decide +kernel
theorem dX4_give_31 : decode cX4_give 31 = .ok (.return_, 1) := by decide +kernel
theorem dX4_buy_0 : decode cX4_buy 0 = .ok (.aload_n 0, 1) := by decide +kernel
theorem dX4_buy_1 : decode cX4_buy 1 = .ok (.iconst 0, 1) := by decide +kernel
theorem dX4_buy_2 : decode cX4_buy 2 = .ok (.putfield 52, 3) := by decide +kernel
theorem dX4_buy_5 : decode cX4_buy 5 = .ok (.aload_n 0, 1) := by decide +kernel
theorem dX4_buy_6 : decode cX4_buy 6 = .ok (.iload_n 1, 1) := by decide +kernel
theorem dX4_buy_7 : decode cX4_buy 7 = .ok (.invokevirtual 66, 3) := by decide +kernel
theorem dX4_buy_10 : decode cX4_buy 10 = .ok (.ifCond .ne 5, 3) := by decide +kernel
theorem dX4_buy_13 : decode cX4_buy 13 = .ok (.iconst (-1), 1) := by decide +kernel
theorem dX4_buy_14 : decode cX4_buy 14 = .ok (.ireturn, 1) := by decide +kernel
theorem dX4_buy_15 : decode cX4_buy 15 = .ok (.aload_n 0, 1) := by decide +kernel
theorem dX4_buy_16 : decode cX4_buy 16 = .ok (.iload_n 1, 1) := by decide +kernel
theorem dX4_buy_17 : decode cX4_buy 17 = .ok (.invokevirtual 103, 3) := by decide +kernel
theorem dX4_buy_20 : decode cX4_buy 20 = .ok (.istore_n 2, 1) := by decide +kernel
theorem dX4_buy_21 : decode cX4_buy 21 = .ok (.iload_n 2, 1) := by decide +kernel
theorem dX4_buy_22 : decode cX4_buy 22 = .ok (.iconst (-1), 1) := by decide +kernel
theorem dX4_buy_23 : decode cX4_buy 23 = .ok (.if_icmp .ne 6, 3) := by decide +kernel
theorem dX4_buy_26 : decode cX4_buy 26 = .ok (.bipush (-2), 2) := by decide +kernel
theorem dX4_buy_28 : decode cX4_buy 28 = .ok (.ireturn, 1) := by decide +kernel
theorem dX4_buy_29 : decode cX4_buy 29 = .ok (.iconst 0, 1) := by decide +kernel
theorem dX4_buy_30 : decode cX4_buy 30 = .ok (.istore_n 3, 1) := by decide +kernel
theorem dX4_buy_31 : decode cX4_buy 31 = .ok (.iload_n 3, 1) := by decide +kernel
theorem dX4_buy_32 : decode cX4_buy 32 = .ok (.aload_n 0, 1) := by decide +kernel
theorem dX4_buy_33 : decode cX4_buy 33 = .ok (.getfield 63, 3) := by decide +kernel
theorem dX4_buy_36 : decode cX4_buy 36 = .ok (.if_icmp .ge 34, 3) := by decide +kernel
theorem dX4_buy_39 : decode cX4_buy 39 = .ok (.aload_n 0, 1) := by decide +kernel
theorem dX4_buy_40 : decode cX4_buy 40 = .ok (.getfield 22, 3) := by decide +kernel
theorem dX4_buy_43 : decode cX4_buy 43 = .ok (.iload_n 2, 1) := by decide +kernel
theorem dX4_buy_44 : decode cX4_buy 44 = .ok (.iaload, 1) := by decide +kernel
theorem dX4_buy_45 : decode cX4_buy 45 = .ok (.iload_n 3, 1) := by decide +kernel
theorem dX4_buy_46 : decode cX4_buy 46 = .ok (.ishr, 1) := by decide +kernel
theorem dX4_buy_47 : decode cX4_buy 47 = .ok (.iconst 1, 1) := by decide +kernel
theorem dX4_buy_48 : decode cX4_buy 48 = .ok (.iand, 1) := by decide +kernel
theorem dX4_buy_49 : decode cX4_buy 49 = .ok (.iconst 1, 1) := by decide +kernel
theorem dX4_buy_50 : decode cX4_buy 50 = .ok (.if_icmp .ne 14, 3) := by decide +kernel
theorem dX4_buy_53 : decode cX4_buy 53 = .ok (.aload_n 0, 1) := by decide +kernel
theorem dX4_buy_54 : decode cX4_buy 54 = .ok (.iload_n 3, 1) := by decide +kernel
theorem dX4_buy_55 : decode cX4_buy 55 = .ok (.aload_n 0, 1) := by decide +kernel
theorem dX4_buy_56 : decode cX4_buy 56 = .ok (.iload_n 3, 1) := by decide +kernel
theorem dX4_buy_57 : decode cX4_buy 57 = .ok (.iconst 3, 1) := by decide +kernel
theorem dX4_buy_58 : decode cX4_buy 58 = .ok (.invokevirtual 70, 3) := by decide +kernel
theorem dX4_buy_61 : decode cX4_buy 61 = .ok (.invokevirtual 110, 3) := by decide +kernel
theorem dX4_buy_64 : decode cX4_buy 64 = .ok (.iinc 3 1, 3) := by decide +kernel
theorem dX4_buy_67 : decode cX4_buy 67 = .ok (.goto (-36), 3) := by decide +kernel
theorem dX4_buy_70 : decode cX4_buy 70 = .ok (.aload_n 0, 1) := by decide +kernel
theorem dX4_buy_71 : decode cX4_buy 71 = .ok (.getfield 19, 3) := by decide +kernel
theorem dX4_buy_74 : decode cX4_buy 74 = .ok (.iload_n 2, 1) := by decide +kernel
theorem dX4_buy_75 : decode cX4_buy 75 = .ok (.iaload, 1) := by decide +kernel
theorem dX4_buy_76 : decode cX4_buy 76 = .ok (.ireturn, 1) := by decide +kernel
theorem dX4_rounds_0 : decode cX4_rounds 0 = .ok (.aload_n 0, 1) := by decide +kernel
theorem dX4_rounds_1 : decode cX4_rounds 1 = .ok (.iconst 0, 1) := by decide +kernel
theorem dX4_rounds_2 : decode cX4_rounds 2 = .ok (.putfield 52, 3) := by decide +kernel
theorem dX4_rounds_5 : decode cX4_rounds 5 = .ok (.aload_n 0, 1) := by decide +kernel
theorem dX4_rounds_6 : decode cX4_rounds 6 = .ok (.iload_n 1, 1) := by decide +kernel
theorem dX4_rounds_7 : decode cX4_rounds 7 = .ok (.invokevirtual 66, 3) := by decide +kernel
theorem dX4_rounds_10 : decode cX4_rounds 10 = .ok (.ifCond .eq 25, 3) := by decide +kernel
theorem dX4_rounds_13 : decode cX4_rounds 13 = .ok (.iload_n 2, 1) := by decide +kernel
theorem dX4_rounds_14 : decode cX4_rounds 14 = .ok (.iconst 0, 1) := by decide +kernel
theorem dX4_rounds_15 : decode cX4_rounds 15 = .ok (.sipush 999, 3) := by decide +kernel
theorem dX4_rounds_18 : decode cX4_rounds 18 = .ok (.invokestatic 59, 3) := by decide +kernel
theorem dX4_rounds_21 : decode cX4_rounds 21 = .ok (.ifCond .eq 14, 3) := by decide +kernel
theorem dX4_rounds_24 : decode cX4_rounds 24 = .ok (.iload_n 3, 1) := by decide +kernel
theorem dX4_rounds_25 : decode cX4_rounds 25 = .ok (.iconst 1, 1) := by decide +kernel
theorem dX4_rounds_26 : decode cX4_rounds 26 = .ok (.sipush 999, 3) := by decide +kernel
theorem dX4_rounds_29 : decode cX4_rounds 29 = .ok (.invokestatic 59, 3) := by decide +kernel
theorem dX4_rounds_32 : decode cX4_rounds 32 = .ok (.ifCond .ne 5, 3) := by decide +kernel
theorem dX4_rounds_35 : decode cX4_rounds 35 = .ok (.iconst (-1), 1) := by decide +kernel
theorem dX4_rounds_36 : decode cX4_rounds 36 = .ok (.ireturn, 1) := by decide +kernel
theorem dX4_rounds_37 : decode cX4_rounds 37 = .ok (.aload_n 0, 1) := by decide +kernel
theorem dX4_rounds_38 : decode cX4_rounds 38 = .ok (.iload_n 1, 1) := by decide +kernel
theorem dX4_rounds_39 : decode cX4_rounds 39 = .ok (.invokevirtual 86, 3) := by decide +kernel
theorem dX4_rounds_42 : decode cX4_rounds 42 = .ok (.ifCond .ne 5, 3) := by decide +kernel
theorem dX4_rounds_45 : decode cX4_rounds 45 = .ok (.iload_n 2, 1) := by decide +kernel
theorem dX4_rounds_46 : decode cX4_rounds 46 = .ok (.ireturn, 1) := by decide +kernel
theorem dX4_rounds_47 : decode cX4_rounds 47 = .ok (.iload_n 2, 1) := by decide +kernel
theorem dX4_rounds_48 : decode cX4_rounds 48 = .ok (.istore 4, 2) := by decide +kernel
theorem dX4_rounds_50 : decode cX4_rounds 50 = .ok (.iload 4, 2) := by decide +kernel
theorem dX4_rounds_52 : decode cX4_rounds 52 = .ok (.sipush 999, 3) := by decide +kernel
theorem dX4_rounds_55 : decode cX4_rounds 55 = .ok (.if_icmp .gt 172, 3) := by decide +kernel
theorem dX4_rounds_58 : decode cX4_rounds 58 = .ok (.iconst 0, 1) := by decide +kernel
theorem dX4_rounds_59 : decode cX4_rounds 59 = .ok (.istore 5, 2) := by decide +kernel
theorem dX4_rounds_61 : decode cX4_rounds 61 = .ok (.iconst 0, 1) := by decide +kernel
theorem dX4_rounds_62 : decode cX4_rounds 62 = .ok (.istore 6, 2) := by decide +kernel
theorem dX4_rounds_64 : decode cX4_rounds 64 = .ok (.iload 6, 2) := by decide +kernel
theorem dX4_rounds_66 : decode cX4_rounds 66 = .ok (.aload_n 0, 1) := by decide +kernel
theorem dX4_rounds_67 : decode cX4_rounds 67 = .ok (.getfield 63, 3) := by decide +kernel
theorem dX4_rounds_70 : decode cX4_rounds 70 = .ok (.if_icmp .ge 43, 3) := by decide +kernel
theorem dX4_rounds_73 : decode cX4_rounds 73 = .ok (.aload_n 0, 1) := by decide +kernel
theorem dX4_rounds_74 : decode cX4_rounds 74 = .ok (.iload 6, 2) := by decide +kernel
theorem dX4_rounds_76 : decode cX4_rounds 76 = .ok (.iload_n 1, 1) := by decide +kernel
theorem dX4_rounds_77 : decode cX4_rounds 77 = .ok (.invokevirtual 99, 3) := by decide +kernel
theorem dX4_rounds_80 : decode cX4_rounds 80 = .ok (.ifCond .eq 27, 3) := by decide +kernel
theorem dX4_rounds_83 : decode cX4_rounds 83 = .ok (.aload_n 0, 1) := by decide +kernel
theorem dX4_rounds_84 : decode cX4_rounds 84 = .ok (.iload 6, 2) := by decide +kernel
theorem dX4_rounds_86 : decode cX4_rounds 86 = .ok (.iconst 3, 1) := by decide +kernel
theorem dX4_rounds_87 : decode cX4_rounds 87 = .ok (.invokevirtual 70, 3) := by decide +kernel
theorem dX4_rounds_90 : decode cX4_rounds 90 = .ok (.iload 4, 2) := by decide +kernel
theorem dX4_rounds_92 : decode cX4_rounds 92 = .ok (.if_icmp .gt 15, 3) := by decide +kernel
theorem dX4_rounds_95 : decode cX4_rounds 95 = .ok (.iload 5, 2) := by decide +kernel
theorem dX4_rounds_97 : decode cX4_rounds 97 = .ok (.aload_n 0, 1) := by decide +kernel
theorem dX4_rounds_98 : decode cX4_rounds 98 = .ok (.iload 6, 2) := by decide +kernel
theorem dX4_rounds_100 : decode cX4_rounds 100 = .ok (.iconst 1, 1) := by decide +kernel
theorem dX4_rounds_101 : decode cX4_rounds 101 = .ok (.invokevirtual 70, 3) := by decide +kernel
theorem dX4_rounds_104 : decode cX4_rounds 104 = .ok (.iadd, 1) := by decide +kernel
theorem dX4_rounds_105 : decode cX4_rounds 105 = .ok (.istore 5, 2) := by decide +kernel
theorem dX4_rounds_107 : decode cX4_rounds 107 = .ok (.iinc 6 1, 3) := by decide +kernel
theorem dX4_rounds_110 : decode cX4_rounds 110 = .ok (.goto (-46), 3) := by decide +kernel
theorem dX4_rounds_113 : decode cX4_rounds 113 = .ok (.iload 5, 2) := by decide +kernel
theorem dX4_rounds_115 : decode cX4_rounds 115 = .ok (.aload_n 0, 1) := by decide +kernel
theorem dX4_rounds_116 : decode cX4_rounds 116 = .ok (.iload_n 1, 1) := by decide +kernel
theorem dX4_rounds_117 : decode cX4_rounds 117 = .ok (.invokevirtual 86, 3) := by decide +kernel
theorem dX4_rounds_120 : decode cX4_rounds 120 = .ok (.if_icmp .ge 6, 3) := by decide +kernel
theorem dX4_rounds_123 : decode cX4_rounds 123 = .ok (.goto 95, 3) := by decide +kernel
theorem dX4_rounds_126 : decode cX4_rounds 126 = .ok (.aload_n 0, 1) := by decide +kernel
theorem dX4_rounds_127 : decode cX4_rounds 127 = .ok (.iload_n 1, 1) := by decide +kernel
theorem dX4_rounds_128 : decode cX4_rounds 128 = .ok (.invokevirtual 86, 3) := by decide +kernel
theorem dX4_rounds_131 : decode cX4_rounds 131 = .ok (.ifCond .le 84, 3) := by decide +kernel
theorem dX4_rounds_134 : decode cX4_rounds 134 = .ok (.iconst (-1), 1) := by decide +kernel
theorem dX4_rounds_135 : decode cX4_rounds 135 = .ok (.istore 6, 2) := by decide +kernel
theorem dX4_rounds_137 : decode cX4_rounds 137 = .ok (.iconst 0, 1) := by decide +kernel
theorem dX4_rounds_138 : decode cX4_rounds 138 = .ok (.istore 7, 2) := by decide +kernel
theorem dX4_rounds_140 : decode cX4_rounds 140 = .ok (.iload 7, 2) := by decide +kernel
theorem dX4_rounds_142 : decode cX4_rounds 142 = .ok (.aload_n 0, 1) := by decide +kernel
theorem dX4_rounds_143 : decode cX4_rounds 143 = .ok (.getfield 63, 3) := by decide +kernel
theorem dX4_rounds_146 : decode cX4_rounds 146 = .ok (.if_icmp .ge 58, 3) := by decide +kernel
theorem dX4_rounds_149 : decode cX4_rounds 149 = .ok (.aload_n 0, 1) := by decide +kernel
theorem dX4_rounds_150 : decode cX4_rounds 150 = .ok (.iload 7, 2) := by decide +kernel
theorem dX4_rounds_152 : decode cX4_rounds 152 = .ok (.iload_n 1, 1) := by decide +kernel
theorem dX4_rounds_153 : decode cX4_rounds 153 = .ok (.invokevirtual 99, 3) := by decide +kernel
theorem dX4_rounds_156 : decode cX4_rounds 156 = .ok (.ifCond .eq 42, 3) := by decide +kernel
theorem dX4_rounds_159 : decode cX4_rounds 159 = .ok (.aload_n 0, 1) := by decide +kernel
theorem dX4_rounds_160 : decode cX4_rounds 160 = .ok (.iload 7, 2) := by decide +kernel
theorem dX4_rounds_162 : decode cX4_rounds 162 = .ok (.iconst 3, 1) := by decide +kernel
theorem dX4_rounds_163 : decode cX4_rounds 163 = .ok (.invokevirtual 70, 3) := by decide +kernel
theorem dX4_rounds_166 : decode cX4_rounds 166 = .ok (.iload 4, 2) := by decide +kernel
theorem dX4_rounds_168 : decode cX4_rounds 168 = .ok (.if_icmp .gt 30, 3) := by decide +kernel
theorem dX4_rounds_171 : decode cX4_rounds 171 = .ok (.iload 6, 2) := by decide +kernel
theorem dX4_rounds_173 : decode cX4_rounds 173 = .ok (.iconst (-1), 1) := by decide +kernel
theorem dX4_rounds_174 : decode cX4_rounds 174 = .ok (.if_icmp .eq 20, 3) := by decide +kernel
theorem dX4_rounds_177 : decode cX4_rounds 177 = .ok (.aload_n 0, 1) := by decide +kernel
theorem dX4_rounds_178 : decode cX4_rounds 178 = .ok (.iload 7, 2) := by decide +kernel
theorem dX4_rounds_180 : decode cX4_rounds 180 = .ok (.iconst 3, 1) := by decide +kernel
theorem dX4_rounds_181 : decode cX4_rounds 181 = .ok (.invokevirtual 70, 3) := by decide +kernel
theorem dX4_rounds_184 : decode cX4_rounds 184 = .ok (.aload_n 0, 1) := by decide +kernel
theorem dX4_rounds_185 : decode cX4_rounds 185 = .ok (.iload 6, 2) := by decide +kernel
theorem dX4_rounds_187 : decode cX4_rounds 187 = .ok (.iconst 3, 1) := by decide +kernel
theorem dX4_rounds_188 : decode cX4_rounds 188 = .ok (.invokevirtual 70, 3) := by decide +kernel
theorem dX4_rounds_191 : decode cX4_rounds 191 = .ok (.if_icmp .ge 7, 3) := by decide +kernel
theorem dX4_rounds_194 : decode cX4_rounds 194 = .ok (.iload 7, 2) := by decide +kernel
theorem dX4_rounds_196 : decode cX4_rounds 196 = .ok (.istore 6, 2) := by decide +kernel
theorem dX4_rounds_198 : decode cX4_rounds 198 = .ok (.iinc 7 1, 3) := by decide +kernel
theorem dX4_rounds_201 : decode cX4_rounds 201 = .ok (.goto (-61), 3) := by decide +kernel
theorem dX4_rounds_204 : decode cX4_rounds 204 = .ok (.aload_n 0, 1) := by decide +kernel
theorem dX4_rounds_205 : decode cX4_rounds 205 = .ok (.iload 6, 2) := by decide +kernel
theorem dX4_rounds_207 : decode cX4_rounds 207 = .ok (.iload 4, 2) := by decide +kernel
theorem dX4_rounds_209 : decode cX4_rounds 209 = .ok (.invokevirtual 110, 3) := by decide +kernel
theorem dX4_rounds_212 : decode cX4_rounds 212 = .ok (.goto (-86), 3) := by decide +kernel
theorem dX4_rounds_215 : decode cX4_rounds 215 = .ok (.iload 4, 2) := by decide +kernel
theorem dX4_rounds_217 : decode cX4_rounds 217 = .ok (.ireturn, 1) := by decide +kernel
theorem dX4_rounds_218 : decode cX4_rounds 218 = .ok (.iload 4, 2) := by decide +kernel
theorem dX4_rounds_220 : decode cX4_rounds 220 = .ok (.iload_n 3, 1) := by decide +kernel
theorem dX4_rounds_221 : decode cX4_rounds 221 = .ok (.iadd, 1) := by decide +kernel
theorem dX4_rounds_222 : decode cX4_rounds 222 = .ok (.istore 4, 2) := by decide +kernel
theorem dX4_rounds_224 : decode cX4_rounds 224 = .ok (.goto (-174), 3) := by decide +kernel
theorem dX4_rounds_227 : decode cX4_rounds 227 = .ok (.bipush (-2), 2) := by decide +kernel
theorem dX4_rounds_229 : decode cX4_rounds 229 = .ok (.ireturn, 1) := by decide +kernel
theorem dX4_leave_0 : decode cX4_leave 0 = .ok (.aload_n 0, 1) := by decide +kernel
theorem dX4_leave_1 : decode cX4_leave 1 = .ok (.iconst 0, 1) := by decide +kernel
theorem dX4_leave_2 : decode cX4_leave 2 = .ok (.putfield 52, 3) := by decide +kernel
theorem dX4_leave_5 : decode cX4_leave 5 = .ok (.aload_n 0, 1) := by decide +kernel
theorem dX4_leave_6 : decode cX4_leave 6 = .ok (.iload_n 1, 1) := by decide +kernel
theorem dX4_leave_7 : decode cX4_leave 7 = .ok (.invokevirtual 66, 3) := by decide +kernel
theorem dX4_leave_10 : decode cX4_leave 10 = .ok (.ifCond .ne 5, 3) := by decide +kernel
theorem dX4_leave_13 : decode cX4_leave 13 = .ok (.iconst (-1), 1) := by decide +kernel
theorem dX4_leave_14 : decode cX4_leave 14 = .ok (.ireturn, 1) := by decide +kernel
theorem dX4_leave_15 : decode cX4_leave 15 = .ok (.iconst 0, 1) := by decide +kernel
theorem dX4_leave_16 : decode cX4_leave 16 = .ok (.istore_n 2, 1) := by decide +kernel
theorem dX4_leave_17 : decode cX4_leave 17 = .ok (.iconst 0, 1) := by decide +kernel
theorem dX4_leave_18 : decode cX4_leave 18 = .ok (.istore_n 3, 1) := by decide +kernel
theorem dX4_leave_19 : decode cX4_leave 19 = .ok (.iload_n 3, 1) := by decide +kernel
theorem dX4_leave_20 : decode cX4_leave 20 = .ok (.aload_n 0, 1) := by decide +kernel
theorem dX4_leave_21 : decode cX4_leave 21 = .ok (.getfield 63, 3) := by decide +kernel
theorem dX4_leave_24 : decode cX4_leave 24 = .ok (.if_icmp .ge 46, 3) := by decide +kernel
theorem dX4_leave_27 : decode cX4_leave 27 = .ok (.aload_n 0, 1) := by decide +kernel
theorem dX4_leave_28 : decode cX4_leave 28 = .ok (.iload_n 3, 1) := by decide +kernel
theorem dX4_leave_29 : decode cX4_leave 29 = .ok (.iconst 0, 1) := by decide +kernel
theorem dX4_leave_30 : decode cX4_leave 30 = .ok (.invokevirtual 70, 3) := by decide +kernel
theorem dX4_leave_33 : decode cX4_leave 33 = .ok (.iload_n 1, 1) := by decide +kernel
theorem dX4_leave_34 : decode cX4_leave 34 = .ok (.if_icmp .ne 30, 3) := by decide +kernel
theorem dX4_leave_37 : decode cX4_leave 37 = .ok (.aload_n 0, 1) := by decide +kernel
theorem dX4_leave_38 : decode cX4_leave 38 = .ok (.iload_n 3, 1) := by decide +kernel
theorem dX4_leave_39 : decode cX4_leave 39 = .ok (.iconst 5, 1) := by decide +kernel
theorem dX4_leave_40 : decode cX4_leave 40 = .ok (.invokevirtual 70, 3) := by decide +kernel
theorem dX4_leave_43 : decode cX4_leave 43 = .ok (.ifCond .ne 21, 3) := by decide +kernel
theorem dX4_leave_46 : decode cX4_leave 46 = .ok (.aload_n 0, 1) := by decide +kernel
theorem dX4_leave_47 : decode cX4_leave 47 = .ok (.iload_n 3, 1) := by decide +kernel
theorem dX4_leave_48 : decode cX4_leave 48 = .ok (.iconst 4, 1) := by decide +kernel
theorem dX4_leave_49 : decode cX4_leave 49 = .ok (.invokevirtual 70, 3) := by decide +kernel
theorem dX4_leave_52 : decode cX4_leave 52 = .ok (.ifCond .ne 12, 3) := by decide +kernel
theorem dX4_leave_55 : decode cX4_leave 55 = .ok (.iload_n 2, 1) := by decide +kernel
theorem dX4_leave_56 : decode cX4_leave 56 = .ok (.aload_n 0, 1) := by decide +kernel
theorem dX4_leave_57 : decode cX4_leave 57 = .ok (.iload_n 3, 1) := by decide +kernel
theorem dX4_leave_58 : decode cX4_leave 58 = .ok (.iconst 1, 1) := by decide +kernel
theorem dX4_leave_59 : decode cX4_leave 59 = .ok (.invokevirtual 70, 3) := by decide +kernel
theorem dX4_leave_62 : decode cX4_leave 62 = .ok (.iadd, 1) := by decide +kernel
theorem dX4_leave_63 : decode cX4_leave 63 = .ok (.istore_n 2, 1) := by decide +kernel
theorem dX4_leave_64 : decode cX4_leave 64 = .ok (.iinc 3 1, 3) := by decide +kernel
theorem dX4_leave_67 : decode cX4_leave 67 = .ok (.goto (-48), 3) := by decide +kernel
theorem dX4_leave_70 : decode cX4_leave 70 = .ok (.iload_n 2, 1) := by decide +kernel
theorem dX4_leave_71 : decode cX4_leave 71 = .ok (.aload_n 0, 1) := by decide +kernel
theorem dX4_leave_72 : decode cX4_leave 72 = .ok (.iload_n 1, 1) := by decide +kernel
theorem dX4_leave_73 : decode cX4_leave 73 = .ok (.invokevirtual 86, 3) := by decide +kernel
theorem dX4_leave_76 : decode cX4_leave 76 = .ok (.if_icmp .ge 6, 3) := by decide +kernel
theorem dX4_leave_79 : decode cX4_leave 79 = .ok (.bipush (-2), 2) := by decide +kernel
theorem dX4_leave_81 : decode cX4_leave 81 = .ok (.ireturn, 1) := by decide +kernel
theorem dX4_leave_82 : decode cX4_leave 82 = .ok (.iconst 0, 1) := by decide +kernel
theorem dX4_leave_83 : decode cX4_leave 83 = .ok (.istore_n 3, 1) := by decide +kernel
theorem dX4_leave_84 : decode cX4_leave 84 = .ok (.aload_n 0, 1) := by decide +kernel
theorem dX4_leave_85 : decode cX4_leave 85 = .ok (.iload_n 1, 1) := by decide +kernel
theorem dX4_leave_86 : decode cX4_leave 86 = .ok (.invokevirtual 86, 3) := by decide +kernel
theorem dX4_leave_89 : decode cX4_leave 89 = .ok (.ifCond .le 134, 3) := by decide +kernel
theorem dX4_leave_92 : decode cX4_leave 92 = .ok (.iconst (-1), 1) := by decide +kernel
theorem dX4_leave_93 : decode cX4_leave 93 = .ok (.istore 4, 2) := by decide +kernel
theorem dX4_leave_95 : decode cX4_leave 95 = .ok (.iconst 0, 1) := by decide +kernel
theorem dX4_leave_96 : decode cX4_leave 96 = .ok (.istore 5, 2) := by decide +kernel
theorem dX4_leave_98 : decode cX4_leave 98 = .ok (.iload 5, 2) := by decide +kernel
theorem dX4_leave_100 : decode cX4_leave 100 = .ok (.aload_n 0, 1) := by decide +kernel
theorem dX4_leave_101 : decode cX4_leave 101 = .ok (.getfield 63, 3) := by decide +kernel
theorem dX4_leave_104 : decode cX4_leave 104 = .ok (.if_icmp .ge 71, 3) := by decide +kernel
theorem dX4_leave_107 : decode cX4_leave 107 = .ok (.aload_n 0, 1) := by decide +kernel
theorem dX4_leave_108 : decode cX4_leave 108 = .ok (.iload 5, 2) := by decide +kernel
theorem dX4_leave_110 : decode cX4_leave 110 = .ok (.iconst 0, 1) := by decide +kernel
theorem dX4_leave_111 : decode cX4_leave 111 = .ok (.invokevirtual 70, 3) := by decide +kernel
theorem dX4_leave_114 : decode cX4_leave 114 = .ok (.iload_n 1, 1) := by decide +kernel
theorem dX4_leave_115 : decode cX4_leave 115 = .ok (.if_icmp .ne 54, 3) := by decide +kernel
theorem dX4_leave_118 : decode cX4_leave 118 = .ok (.aload_n 0, 1) := by decide +kernel
theorem dX4_leave_119 : decode cX4_leave 119 = .ok (.iload 5, 2) := by decide +kernel
theorem dX4_leave_121 : decode cX4_leave 121 = .ok (.iconst 5, 1) := by decide +kernel
theorem dX4_leave_122 : decode cX4_leave 122 = .ok (.invokevirtual 70, 3) := by decide +kernel
theorem dX4_leave_125 : decode cX4_leave 125 = .ok (.ifCond .ne 44, 3) := by decide +kernel
theorem dX4_leave_128 : decode cX4_leave 128 = .ok (.aload_n 0, 1) := by decide +kernel
theorem dX4_leave_129 : decode cX4_leave 129 = .ok (.iload 5, 2) := by decide +kernel
theorem dX4_leave_131 : decode cX4_leave 131 = .ok (.iconst 4, 1) := by decide +kernel
theorem dX4_leave_132 : decode cX4_leave 132 = .ok (.invokevirtual 70, 3) := by decide +kernel
theorem dX4_leave_135 : decode cX4_leave 135 = .ok (.iconst 1, 1) := by decide +kernel
theorem dX4_leave_136 : decode cX4_leave 136 = .ok (.if_icmp .ne 6, 3) := by decide +kernel
theorem dX4_leave_139 : decode cX4_leave 139 = .ok (.goto 30, 3) := by decide +kernel
theorem dX4_leave_142 : decode cX4_leave 142 = .ok (.iload 4, 2) := by decide +kernel
theorem dX4_leave_144 : decode cX4_leave 144 = .ok (.iconst (-1), 1) := by decide +kernel
theorem dX4_leave_145 : decode cX4_leave 145 = .ok (.if_icmp .eq 20, 3) := by decide +kernel
theorem dX4_leave_148 : decode cX4_leave 148 = .ok (.aload_n 0, 1) := by decide +kernel
theorem dX4_leave_149 : decode cX4_leave 149 = .ok (.iload 5, 2) := by decide +kernel
theorem dX4_leave_151 : decode cX4_leave 151 = .ok (.iconst 2, 1) := by decide +kernel
theorem dX4_leave_152 : decode cX4_leave 152 = .ok (.invokevirtual 70, 3) := by decide +kernel
theorem dX4_leave_155 : decode cX4_leave 155 = .ok (.aload_n 0, 1) := by decide +kernel
theorem dX4_leave_156 : decode cX4_leave 156 = .ok (.iload 4, 2) := by decide +kernel
theorem dX4_leave_158 : decode cX4_leave 158 = .ok (.iconst 2, 1) := by decide +kernel
theorem dX4_leave_159 : decode cX4_leave 159 = .ok (.invokevirtual 70, 3) := by decide +kernel
theorem dX4_leave_162 : decode cX4_leave 162 = .ok (.if_icmp .gt 7, 3) := by decide +kernel
theorem dX4_leave_165 : decode cX4_leave 165 = .ok (.iload 5, 2) := by decide +kernel
theorem dX4_leave_167 : decode cX4_leave 167 = .ok (.istore 4, 2) := by decide +kernel
theorem dX4_leave_169 : decode cX4_leave 169 = .ok (.iinc 5 1, 3) := by decide +kernel
theorem dX4_leave_172 : decode cX4_leave 172 = .ok (.goto (-74), 3) := by decide +kernel
theorem dX4_leave_175 : decode cX4_leave 175 = .ok (.aload_n 0, 1) := by decide +kernel
theorem dX4_leave_176 : decode cX4_leave 176 = .ok (.iload 4, 2) := by decide +kernel
theorem dX4_leave_178 : decode cX4_leave 178 = .ok (.iconst 5, 1) := by decide +kernel
theorem dX4_leave_179 : decode cX4_leave 179 = .ok (.iconst 2, 1) := by decide +kernel
theorem dX4_leave_180 : decode cX4_leave 180 = .ok (.invokevirtual 106, 3) := by decide +kernel
theorem dX4_leave_183 : decode cX4_leave 183 = .ok (.aload_n 0, 1) := by decide +kernel
theorem dX4_leave_184 : decode cX4_leave 184 = .ok (.iload 4, 2) := by decide +kernel
theorem dX4_leave_186 : decode cX4_leave 186 = .ok (.bipush 6, 2) := by decide +kernel
theorem dX4_leave_188 : decode cX4_leave 188 = .ok (.iconst 0, 1) := by decide +kernel
theorem dX4_leave_189 : decode cX4_leave 189 = .ok (.invokevirtual 106, 3) := by decide +kernel
theorem dX4_leave_192 : decode cX4_leave 192 = .ok (.aload_n 0, 1) := by decide +kernel
theorem dX4_leave_193 : decode cX4_leave 193 = .ok (.iload 4, 2) := by decide +kernel
theorem dX4_leave_195 : decode cX4_leave 195 = .ok (.bipush 7, 2) := by decide +kernel
theorem dX4_leave_197 : decode cX4_leave 197 = .ok (.iconst (-1), 1) := by decide +kernel
theorem dX4_leave_198 : decode cX4_leave 198 = .ok (.invokevirtual 106, 3) := by decide +kernel
theorem dX4_leave_201 : decode cX4_leave 201 = .ok (.aload_n 0, 1) := by decide +kernel
theorem dX4_leave_202 : decode cX4_leave 202 = .ok (.iload 4, 2) := by decide +kernel
theorem dX4_leave_204 : decode cX4_leave 204 = .ok (.bipush 8, 2) := by decide +kernel
theorem dX4_leave_206 : decode cX4_leave 206 = .ok (.iconst (-1), 1) := by decide +kernel
theorem dX4_leave_207 : decode cX4_leave 207 = .ok (.invokevirtual 106, 3) := by decide +kernel
theorem dX4_leave_210 : decode cX4_leave 210 = .ok (.iload_n 3, 1) := by decide +kernel
theorem dX4_leave_211 : decode cX4_leave 211 = .ok (.aload_n 0, 1) := by decide +kernel
theorem dX4_leave_212 : decode cX4_leave 212 = .ok (.iload 4, 2) := by decide +kernel
theorem dX4_leave_214 : decode cX4_leave 214 = .ok (.iconst 1, 1) := by decide +kernel
theorem dX4_leave_215 : decode cX4_leave 215 = .ok (.invokevirtual 70, 3) := by decide +kernel
theorem dX4_leave_218 : decode cX4_leave 218 = .ok (.iadd, 1) := by decide +kernel
theorem dX4_leave_219 : decode cX4_leave 219 = .ok (.istore_n 3, 1) := by decide +kernel
theorem dX4_leave_220 : decode cX4_leave 220 = .ok (.goto (-136), 3) := by decide +kernel
theorem dX4_leave_223 : decode cX4_leave 223 = .ok (.iload_n 3, 1) := by decide +kernel
theorem dX4_leave_224 : decode cX4_leave 224 = .ok (.ireturn, 1) := by decide +kernel
theorem dX4_back_0 : decode cX4_back 0 = .ok (.aload_n 0, 1) := by decide +kernel
theorem dX4_back_1 : decode cX4_back 1 = .ok (.iconst 0, 1) := by decide +kernel
theorem dX4_back_2 : decode cX4_back 2 = .ok (.putfield 52, 3) := by decide +kernel
theorem dX4_back_5 : decode cX4_back 5 = .ok (.aload_n 0, 1) := by decide +kernel
theorem dX4_back_6 : decode cX4_back 6 = .ok (.iload_n 1, 1) := by decide +kernel
theorem dX4_back_7 : decode cX4_back 7 = .ok (.invokevirtual 92, 3) := by decide +kernel
theorem dX4_back_10 : decode cX4_back 10 = .ok (.ifCond .eq 12, 3) := by decide +kernel
theorem dX4_back_13 : decode cX4_back 13 = .ok (.aload_n 0, 1) := by decide +kernel
theorem dX4_back_14 : decode cX4_back 14 = .ok (.iload_n 1, 1) := by decide +kernel
theorem dX4_back_15 : decode cX4_back 15 = .ok (.iconst 5, 1) := by decide +kernel
theorem dX4_back_16 : decode cX4_back 16 = .ok (.invokevirtual 70, 3) := by decide +kernel
theorem dX4_back_19 : decode cX4_back 19 = .ok (.ifCond .ne 5, 3) := by decide +kernel
theorem dX4_back_22 : decode cX4_back 22 = .ok (.iconst 0, 1) := by decide +kernel
theorem dX4_back_23 : decode cX4_back 23 = .ok (.ireturn, 1) := by decide +kernel
theorem dX4_back_24 : decode cX4_back 24 = .ok (.aload_n 0, 1) := by decide +kernel
theorem dX4_back_25 : decode cX4_back 25 = .ok (.iload_n 1, 1) := by decide +kernel
theorem dX4_back_26 : decode cX4_back 26 = .ok (.iconst 5, 1) := by decide +kernel
theorem dX4_back_27 : decode cX4_back 27 = .ok (.invokevirtual 70, 3) := by decide +kernel
theorem dX4_back_30 : decode cX4_back 30 = .ok (.istore_n 2, 1) := by decide +kernel
theorem dX4_back_31 : decode cX4_back 31 = .ok (.aload_n 0, 1) := by decide +kernel
theorem dX4_back_32 : decode cX4_back 32 = .ok (.iload_n 1, 1) := by decide +kernel
theorem dX4_back_33 : decode cX4_back 33 = .ok (.bipush 7, 2) := by decide +kernel
theorem dX4_back_35 : decode cX4_back 35 = .ok (.invokevirtual 70, 3) := by decide +kernel
theorem dX4_back_38 : decode cX4_back 38 = .ok (.istore_n 3, 1) := by decide +kernel
theorem dX4_back_39 : decode cX4_back 39 = .ok (.aload_n 0, 1) := by decide +kernel
theorem dX4_back_40 : decode cX4_back 40 = .ok (.iload_n 1, 1) := by decide +kernel
theorem dX4_back_41 : decode cX4_back 41 = .ok (.bipush 8, 2) := by decide +kernel
theorem dX4_back_43 : decode cX4_back 43 = .ok (.invokevirtual 70, 3) := by decide +kernel
theorem dX4_back_46 : decode cX4_back 46 = .ok (.istore 4, 2) := by decide +kernel
theorem dX4_back_48 : decode cX4_back 48 = .ok (.aload_n 0, 1) := by decide +kernel
theorem dX4_back_49 : decode cX4_back 49 = .ok (.iload_n 1, 1) := by decide +kernel
theorem dX4_back_50 : decode cX4_back 50 = .ok (.iconst 5, 1) := by decide +kernel
theorem dX4_back_51 : decode cX4_back 51 = .ok (.iconst 0, 1) := by decide +kernel
theorem dX4_back_52 : decode cX4_back 52 = .ok (.invokevirtual 106, 3) := by decide +kernel
theorem dX4_back_55 : decode cX4_back 55 = .ok (.aload_n 0, 1) := by decide +kernel
theorem dX4_back_56 : decode cX4_back 56 = .ok (.iload_n 1, 1) := by decide +kernel
theorem dX4_back_57 : decode cX4_back 57 = .ok (.bipush 7, 2) := by decide +kernel
theorem dX4_back_59 : decode cX4_back 59 = .ok (.iconst (-1), 1) := by decide +kernel
theorem dX4_back_60 : decode cX4_back 60 = .ok (.invokevirtual 106, 3) := by decide +kernel
theorem dX4_back_63 : decode cX4_back 63 = .ok (.aload_n 0, 1) := by decide +kernel
theorem dX4_back_64 : decode cX4_back 64 = .ok (.iload_n 1, 1) := by decide +kernel
theorem dX4_back_65 : decode cX4_back 65 = .ok (.bipush 8, 2) := by decide +kernel
theorem dX4_back_67 : decode cX4_back 67 = .ok (.iconst (-1), 1) := by decide +kernel
theorem dX4_back_68 : decode cX4_back 68 = .ok (.invokevirtual 106, 3) := by decide +kernel
theorem dX4_back_71 : decode cX4_back 71 = .ok (.aload_n 0, 1) := by decide +kernel
theorem dX4_back_72 : decode cX4_back 72 = .ok (.aload_n 0, 1) := by decide +kernel
theorem dX4_back_73 : decode cX4_back 73 = .ok (.iload_n 1, 1) := by decide +kernel
theorem dX4_back_74 : decode cX4_back 74 = .ok (.iconst 0, 1) := by decide +kernel
theorem dX4_back_75 : decode cX4_back 75 = .ok (.invokevirtual 70, 3) := by decide +kernel
theorem dX4_back_78 : decode cX4_back 78 = .ok (.invokevirtual 86, 3) := by decide +kernel
theorem dX4_back_81 : decode cX4_back 81 = .ok (.ifCond .ne 13, 3) := by decide +kernel
theorem dX4_back_84 : decode cX4_back 84 = .ok (.aload_n 0, 1) := by decide +kernel
theorem dX4_back_85 : decode cX4_back 85 = .ok (.iload_n 1, 1) := by decide +kernel
theorem dX4_back_86 : decode cX4_back 86 = .ok (.bipush 6, 2) := by decide +kernel
theorem dX4_back_88 : decode cX4_back 88 = .ok (.iconst 0, 1) := by decide +kernel
theorem dX4_back_89 : decode cX4_back 89 = .ok (.invokevirtual 106, 3) := by decide +kernel
theorem dX4_back_92 : decode cX4_back 92 = .ok (.iconst 1, 1) := by decide +kernel
theorem dX4_back_93 : decode cX4_back 93 = .ok (.ireturn, 1) := by decide +kernel
theorem dX4_back_94 : decode cX4_back 94 = .ok (.aload_n 0, 1) := by decide +kernel
theorem dX4_back_95 : decode cX4_back 95 = .ok (.iload_n 1, 1) := by decide +kernel
theorem dX4_back_96 : decode cX4_back 96 = .ok (.iconst 5, 1) := by decide +kernel
theorem dX4_back_97 : decode cX4_back 97 = .ok (.iload_n 2, 1) := by decide +kernel
theorem dX4_back_98 : decode cX4_back 98 = .ok (.invokevirtual 106, 3) := by decide +kernel
theorem dX4_back_101 : decode cX4_back 101 = .ok (.aload_n 0, 1) := by decide +kernel
theorem dX4_back_102 : decode cX4_back 102 = .ok (.iload_n 1, 1) := by decide +kernel
theorem dX4_back_103 : decode cX4_back 103 = .ok (.bipush 7, 2) := by decide +kernel
theorem dX4_back_105 : decode cX4_back 105 = .ok (.iload_n 3, 1) := by decide +kernel
theorem dX4_back_106 : decode cX4_back 106 = .ok (.invokevirtual 106, 3) := by decide +kernel
theorem dX4_back_109 : decode cX4_back 109 = .ok (.aload_n 0, 1) := by decide +kernel
theorem dX4_back_110 : decode cX4_back 110 = .ok (.iload_n 1, 1) := by decide +kernel
theorem dX4_back_111 : decode cX4_back 111 = .ok (.bipush 8, 2) := by decide +kernel
theorem dX4_back_113 : decode cX4_back 113 = .ok (.iload 4, 2) := by decide +kernel
theorem dX4_back_115 : decode cX4_back 115 = .ok (.invokevirtual 106, 3) := by decide +kernel
theorem dX4_back_118 : decode cX4_back 118 = .ok (.iconst 0, 1) := by decide +kernel
theorem dX4_back_119 : decode cX4_back 119 = .ok (.ireturn, 1) := by decide +kernel
theorem dX4_late_0 : decode cX4_late 0 = .ok (.aload_n 0, 1) := by decide +kernel
theorem dX4_late_1 : decode cX4_late 1 = .ok (.iconst 0, 1) := by decide +kernel
theorem dX4_late_2 : decode cX4_late 2 = .ok (.putfield 52, 3) := by decide +kernel
theorem dX4_late_5 : decode cX4_late 5 = .ok (.aload_n 0, 1) := by decide +kernel
theorem dX4_late_6 : decode cX4_late 6 = .ok (.iload_n 1, 1) := by decide +kernel
theorem dX4_late_7 : decode cX4_late 7 = .ok (.invokevirtual 92, 3) := by decide +kernel
theorem dX4_late_10 : decode cX4_late 10 = .ok (.ifCond .eq 13, 3) := by decide +kernel
theorem dX4_late_13 : decode cX4_late 13 = .ok (.aload_n 0, 1) := by decide +kernel
theorem dX4_late_14 : decode cX4_late 14 = .ok (.iload_n 1, 1) := by decide +kernel
theorem dX4_late_15 : decode cX4_late 15 = .ok (.iload_n 2, 1) := by decide +kernel
theorem dX4_late_16 : decode cX4_late 16 = .ok (.iload_n 3, 1) := by decide +kernel
theorem dX4_late_17 : decode cX4_late 17 = .ok (.invokevirtual 114, 3) := by decide +kernel
theorem dX4_late_20 : decode cX4_late 20 = .ok (.goto 4, 3) := by decide +kernel
theorem dX4_late_23 : decode cX4_late 23 = .ok (.iconst (-1), 1) := by decide +kernel
theorem dX4_late_24 : decode cX4_late 24 = .ok (.ireturn, 1) := by decide +kernel
theorem dX4_findWays_0 : decode cX4_findWays 0 = .ok (.iconst 0, 1) := by decide +kernel
theorem dX4_findWays_1 : decode cX4_findWays 1 = .ok (.istore_n 2, 1) := by decide +kernel
theorem dX4_findWays_2 : decode cX4_findWays 2 = .ok (.aload_n 0, 1) := by decide +kernel
theorem dX4_findWays_3 : decode cX4_findWays 3 = .ok (.getfield 37, 3) := by decide +kernel
theorem dX4_findWays_6 : decode cX4_findWays 6 = .ok (.iload_n 1, 1) := by decide +kernel
theorem dX4_findWays_7 : decode cX4_findWays 7 = .ok (.ldc 98, 2) := by decide +kernel
theorem dX4_findWays_9 : decode cX4_findWays 9 = .ok (.iastore, 1) := by decide +kernel
theorem dX4_findWays_10 : decode cX4_findWays 10 = .ok (.iconst 0, 1) := by decide +kernel
theorem dX4_findWays_11 : decode cX4_findWays 11 = .ok (.istore_n 3, 1) := by decide +kernel
theorem dX4_findWays_12 : decode cX4_findWays 12 = .ok (.iload_n 3, 1) := by decide +kernel
theorem dX4_findWays_13 : decode cX4_findWays 13 = .ok (.aload_n 0, 1) := by decide +kernel
theorem dX4_findWays_14 : decode cX4_findWays 14 = .ok (.getfield 56, 3) := by decide +kernel
theorem dX4_findWays_17 : decode cX4_findWays 17 = .ok (.if_icmp .ge 125, 3) := by decide +kernel
theorem dX4_findWays_20 : decode cX4_findWays 20 = .ok (.iconst (-1), 1) := by decide +kernel
theorem dX4_findWays_21 : decode cX4_findWays 21 = .ok (.istore 4, 2) := by decide +kernel
theorem dX4_findWays_23 : decode cX4_findWays 23 = .ok (.iload 4, 2) := by decide +kernel
theorem dX4_findWays_25 : decode cX4_findWays 25 = .ok (.aload_n 0, 1) := by decide +kernel
theorem dX4_findWays_26 : decode cX4_findWays 26 = .ok (.getfield 56, 3) := by decide +kernel
theorem dX4_findWays_29 : decode cX4_findWays 29 = .ok (.if_icmp .ge 107, 3) := by decide +kernel
theorem dX4_findWays_32 : decode cX4_findWays 32 = .ok (.aload_n 0, 1) := by decide +kernel
theorem dX4_findWays_33 : decode cX4_findWays 33 = .ok (.aload_n 0, 1) := by decide +kernel
theorem dX4_findWays_34 : decode cX4_findWays 34 = .ok (.getfield 25, 3) := by decide +kernel
theorem dX4_findWays_37 : decode cX4_findWays 37 = .ok (.iload_n 1, 1) := by decide +kernel
theorem dX4_findWays_38 : decode cX4_findWays 38 = .ok (.iaload, 1) := by decide +kernel
theorem dX4_findWays_39 : decode cX4_findWays 39 = .ok (.iload_n 3, 1) := by decide +kernel
theorem dX4_findWays_40 : decode cX4_findWays 40 = .ok (.iload 4, 2) := by decide +kernel
theorem dX4_findWays_42 : decode cX4_findWays 42 = .ok (.invokevirtual 114, 3) := by decide +kernel
theorem dX4_findWays_45 : decode cX4_findWays 45 = .ok (.istore 5, 2) := by decide +kernel
theorem dX4_findWays_47 : decode cX4_findWays 47 = .ok (.iload 5, 2) := by decide +kernel
theorem dX4_findWays_49 : decode cX4_findWays 49 = .ok (.iconst (-1), 1) := by decide +kernel
theorem dX4_findWays_50 : decode cX4_findWays 50 = .ok (.if_icmp .ne 6, 3) := by decide +kernel
theorem dX4_findWays_53 : decode cX4_findWays 53 = .ok (.goto 77, 3) := by decide +kernel
theorem dX4_findWays_56 : decode cX4_findWays 56 = .ok (.aload_n 0, 1) := by decide +kernel
theorem dX4_findWays_57 : decode cX4_findWays 57 = .ok (.getfield 28, 3) := by decide +kernel
theorem dX4_findWays_60 : decode cX4_findWays 60 = .ok (.bipush 72, 2) := by decide +kernel
theorem dX4_findWays_62 : decode cX4_findWays 62 = .ok (.iload_n 1, 1) := by decide +kernel
theorem dX4_findWays_63 : decode cX4_findWays 63 = .ok (.imul, 1) := by decide +kernel
theorem dX4_findWays_64 : decode cX4_findWays 64 = .ok (.iload_n 2, 1) := by decide +kernel
theorem dX4_findWays_65 : decode cX4_findWays 65 = .ok (.iadd, 1) := by decide +kernel
theorem dX4_findWays_66 : decode cX4_findWays 66 = .ok (.bipush 9, 2) := by decide +kernel
theorem dX4_findWays_68 : decode cX4_findWays 68 = .ok (.iload_n 3, 1) := by decide +kernel
theorem dX4_findWays_69 : decode cX4_findWays 69 = .ok (.imul, 1) := by decide +kernel
theorem dX4_findWays_70 : decode cX4_findWays 70 = .ok (.iload 4, 2) := by decide +kernel
theorem dX4_findWays_72 : decode cX4_findWays 72 = .ok (.iadd, 1) := by decide +kernel
theorem dX4_findWays_73 : decode cX4_findWays 73 = .ok (.iconst 1, 1) := by decide +kernel
theorem dX4_findWays_74 : decode cX4_findWays 74 = .ok (.iadd, 1) := by decide +kernel
theorem dX4_findWays_75 : decode cX4_findWays 75 = .ok (.iastore, 1) := by decide +kernel
theorem dX4_findWays_76 : decode cX4_findWays 76 = .ok (.aload_n 0, 1) := by decide +kernel
theorem dX4_findWays_77 : decode cX4_findWays 77 = .ok (.getfield 31, 3) := by decide +kernel
theorem dX4_findWays_80 : decode cX4_findWays 80 = .ok (.bipush 72, 2) := by decide +kernel
theorem dX4_findWays_82 : decode cX4_findWays 82 = .ok (.iload_n 1, 1) := by decide +kernel
theorem dX4_findWays_83 : decode cX4_findWays 83 = .ok (.imul, 1) := by decide +kernel
theorem dX4_findWays_84 : decode cX4_findWays 84 = .ok (.iload_n 2, 1) := by decide +kernel
theorem dX4_findWays_85 : decode cX4_findWays 85 = .ok (.iadd, 1) := by decide +kernel
theorem dX4_findWays_86 : decode cX4_findWays 86 = .ok (.iload 5, 2) := by decide +kernel
theorem dX4_findWays_88 : decode cX4_findWays 88 = .ok (.aload_n 0, 1) := by decide +kernel
theorem dX4_findWays_89 : decode cX4_findWays 89 = .ok (.aload_n 0, 1) := by decide +kernel
theorem dX4_findWays_90 : decode cX4_findWays 90 = .ok (.getfield 25, 3) := by decide +kernel
theorem dX4_findWays_93 : decode cX4_findWays 93 = .ok (.iload_n 1, 1) := by decide +kernel
theorem dX4_findWays_94 : decode cX4_findWays 94 = .ok (.iaload, 1) := by decide +kernel
theorem dX4_findWays_95 : decode cX4_findWays 95 = .ok (.iconst 1, 1) := by decide +kernel
theorem dX4_findWays_96 : decode cX4_findWays 96 = .ok (.invokevirtual 70, 3) := by decide +kernel
theorem dX4_findWays_99 : decode cX4_findWays 99 = .ok (.imul, 1) := by decide +kernel
theorem dX4_findWays_100 : decode cX4_findWays 100 = .ok (.iastore, 1) := by decide +kernel
theorem dX4_findWays_101 : decode cX4_findWays 101 = .ok (.aload_n 0, 1) := by decide +kernel
theorem dX4_findWays_102 : decode cX4_findWays 102 = .ok (.getfield 37, 3) := by decide +kernel
theorem dX4_findWays_105 : decode cX4_findWays 105 = .ok (.iload_n 1, 1) := by decide +kernel
theorem dX4_findWays_106 : decode cX4_findWays 106 = .ok (.aload_n 0, 1) := by decide +kernel
theorem dX4_findWays_107 : decode cX4_findWays 107 = .ok (.getfield 37, 3) := by decide +kernel
theorem dX4_findWays_110 : decode cX4_findWays 110 = .ok (.iload_n 1, 1) := by decide +kernel
theorem dX4_findWays_111 : decode cX4_findWays 111 = .ok (.iaload, 1) := by decide +kernel
theorem dX4_findWays_112 : decode cX4_findWays 112 = .ok (.aload_n 0, 1) := by decide +kernel
theorem dX4_findWays_113 : decode cX4_findWays 113 = .ok (.getfield 31, 3) := by decide +kernel
theorem dX4_findWays_116 : decode cX4_findWays 116 = .ok (.bipush 72, 2) := by decide +kernel
theorem dX4_findWays_118 : decode cX4_findWays 118 = .ok (.iload_n 1, 1) := by decide +kernel
theorem dX4_findWays_119 : decode cX4_findWays 119 = .ok (.imul, 1) := by decide +kernel
theorem dX4_findWays_120 : decode cX4_findWays 120 = .ok (.iload_n 2, 1) := by decide +kernel
theorem dX4_findWays_121 : decode cX4_findWays 121 = .ok (.iadd, 1) := by decide +kernel
theorem dX4_findWays_122 : decode cX4_findWays 122 = .ok (.iaload, 1) := by decide +kernel
theorem dX4_findWays_123 : decode cX4_findWays 123 = .ok (.invokestatic 118, 3) := by decide +kernel
theorem dX4_findWays_126 : decode cX4_findWays 126 = .ok (.iastore, 1) := by decide +kernel
theorem dX4_findWays_127 : decode cX4_findWays 127 = .ok (.iinc 2 1, 3) := by decide +kernel
theorem dX4_findWays_130 : decode cX4_findWays 130 = .ok (.iinc 4 1, 3) := by decide +kernel
theorem dX4_findWays_133 : decode cX4_findWays 133 = .ok (.goto (-110), 3) := by decide +kernel
theorem dX4_findWays_136 : decode cX4_findWays 136 = .ok (.iinc 3 1, 3) := by decide +kernel
theorem dX4_findWays_139 : decode cX4_findWays 139 = .ok (.goto (-127), 3) := by decide +kernel
theorem dX4_findWays_142 : decode cX4_findWays 142 = .ok (.aload_n 0, 1) := by decide +kernel
theorem dX4_findWays_143 : decode cX4_findWays 143 = .ok (.getfield 34, 3) := by decide +kernel
theorem dX4_findWays_146 : decode cX4_findWays 146 = .ok (.iload_n 1, 1) := by decide +kernel
theorem dX4_findWays_147 : decode cX4_findWays 147 = .ok (.iload_n 2, 1) := by decide +kernel
theorem dX4_findWays_148 : decode cX4_findWays 148 = .ok (.iastore, 1) := by decide +kernel
theorem dX4_findWays_149 : decode cX4_findWays 149 = .ok (.return_, 1) := by decide +kernel
theorem dX4_hasRoom_0 : decode cX4_hasRoom 0 = .ok (.iload_n 1, 1) := by decide +kernel
theorem dX4_hasRoom_1 : decode cX4_hasRoom 1 = .ok (.ifCond .lt 20, 3) := by decide +kernel
theorem dX4_hasRoom_4 : decode cX4_hasRoom 4 = .ok (.aload_n 0, 1) := by decide +kernel
theorem dX4_hasRoom_5 : decode cX4_hasRoom 5 = .ok (.getfield 43, 3) := by decide +kernel
theorem dX4_hasRoom_8 : decode cX4_hasRoom 8 = .ok (.iload_n 1, 1) := by decide +kernel
theorem dX4_hasRoom_9 : decode cX4_hasRoom 9 = .ok (.iaload, 1) := by decide +kernel
theorem dX4_hasRoom_10 : decode cX4_hasRoom 10 = .ok (.iload_n 2, 1) := by decide +kernel
theorem dX4_hasRoom_11 : decode cX4_hasRoom 11 = .ok (.iadd, 1) := by decide +kernel
theorem dX4_hasRoom_12 : decode cX4_hasRoom 12 = .ok (.aload_n 0, 1) := by decide +kernel
theorem dX4_hasRoom_13 : decode cX4_hasRoom 13 = .ok (.getfield 40, 3) := by decide +kernel
theorem dX4_hasRoom_16 : decode cX4_hasRoom 16 = .ok (.iload_n 1, 1) := by decide +kernel
theorem dX4_hasRoom_17 : decode cX4_hasRoom 17 = .ok (.iaload, 1) := by decide +kernel
theorem dX4_hasRoom_18 : decode cX4_hasRoom 18 = .ok (.if_icmp .gt 7, 3) := by decide +kernel
theorem dX4_hasRoom_21 : decode cX4_hasRoom 21 = .ok (.iconst 1, 1) := by decide +kernel
theorem dX4_hasRoom_22 : decode cX4_hasRoom 22 = .ok (.goto 4, 3) := by decide +kernel
theorem dX4_hasRoom_25 : decode cX4_hasRoom 25 = .ok (.iconst 0, 1) := by decide +kernel
theorem dX4_hasRoom_26 : decode cX4_hasRoom 26 = .ok (.ireturn, 1) := by decide +kernel
theorem dX4_goOn_0 : decode cX4_goOn 0 = .ok (.iload_n 2, 1) := by decide +kernel
theorem dX4_goOn_1 : decode cX4_goOn 1 = .ok (.istore 4, 2) := by decide +kernel
theorem dX4_goOn_3 : decode cX4_goOn 3 = .ok (.iload_n 3, 1) := by decide +kernel
theorem dX4_goOn_4 : decode cX4_goOn 4 = .ok (.istore 5, 2) := by decide +kernel
theorem dX4_goOn_6 : decode cX4_goOn 6 = .ok (.iload_n 1, 1) := by decide +kernel
theorem dX4_goOn_7 : decode cX4_goOn 7 = .ok (.istore 6, 2) := by decide +kernel
theorem dX4_goOn_9 : decode cX4_goOn 9 = .ok (.iload 6, 2) := by decide +kernel
theorem dX4_goOn_11 : decode cX4_goOn 11 = .ok (.aload_n 0, 1) := by decide +kernel
theorem dX4_goOn_12 : decode cX4_goOn 12 = .ok (.getfield 121, 3) := by decide +kernel
theorem dX4_goOn_15 : decode cX4_goOn 15 = .ok (.if_icmp .ge 51, 3) := by decide +kernel
theorem dX4_goOn_18 : decode cX4_goOn 18 = .ok (.aload_n 0, 1) := by decide +kernel
theorem dX4_goOn_19 : decode cX4_goOn 19 = .ok (.getfield 34, 3) := by decide +kernel
theorem dX4_goOn_22 : decode cX4_goOn 22 = .ok (.iload 6, 2) := by decide +kernel
theorem dX4_goOn_24 : decode cX4_goOn 24 = .ok (.iaload, 1) := by decide +kernel
theorem dX4_goOn_25 : decode cX4_goOn 25 = .ok (.ifCond .ne 6, 3) := by decide +kernel
theorem dX4_goOn_28 : decode cX4_goOn 28 = .ok (.goto 32, 3) := by decide +kernel
theorem dX4_goOn_31 : decode cX4_goOn 31 = .ok (.iload 4, 2) := by decide +kernel
theorem dX4_goOn_33 : decode cX4_goOn 33 = .ok (.aload_n 0, 1) := by decide +kernel
theorem dX4_goOn_34 : decode cX4_goOn 34 = .ok (.aload_n 0, 1) := by decide +kernel
theorem dX4_goOn_35 : decode cX4_goOn 35 = .ok (.getfield 25, 3) := by decide +kernel
theorem dX4_goOn_38 : decode cX4_goOn 38 = .ok (.iload 6, 2) := by decide +kernel
theorem dX4_goOn_40 : decode cX4_goOn 40 = .ok (.iaload, 1) := by decide +kernel
theorem dX4_goOn_41 : decode cX4_goOn 41 = .ok (.iconst 1, 1) := by decide +kernel
theorem dX4_goOn_42 : decode cX4_goOn 42 = .ok (.invokevirtual 70, 3) := by decide +kernel
theorem dX4_goOn_45 : decode cX4_goOn 45 = .ok (.iadd, 1) := by decide +kernel
theorem dX4_goOn_46 : decode cX4_goOn 46 = .ok (.istore 4, 2) := by decide +kernel
theorem dX4_goOn_48 : decode cX4_goOn 48 = .ok (.iload 5, 2) := by decide +kernel
theorem dX4_goOn_50 : decode cX4_goOn 50 = .ok (.aload_n 0, 1) := by decide +kernel
theorem dX4_goOn_51 : decode cX4_goOn 51 = .ok (.getfield 37, 3) := by decide +kernel
theorem dX4_goOn_54 : decode cX4_goOn 54 = .ok (.iload 6, 2) := by decide +kernel
theorem dX4_goOn_56 : decode cX4_goOn 56 = .ok (.iaload, 1) := by decide +kernel
theorem dX4_goOn_57 : decode cX4_goOn 57 = .ok (.iadd, 1) := by decide +kernel
theorem dX4_goOn_58 : decode cX4_goOn 58 = .ok (.istore 5, 2) := by decide +kernel
theorem dX4_goOn_60 : decode cX4_goOn 60 = .ok (.iinc 6 1, 3) := by decide +kernel
theorem dX4_goOn_63 : decode cX4_goOn 63 = .ok (.goto (-54), 3) := by decide +kernel
theorem dX4_goOn_66 : decode cX4_goOn 66 = .ok (.iload 4, 2) := by decide +kernel
theorem dX4_goOn_68 : decode cX4_goOn 68 = .ok (.aload_n 0, 1) := by decide +kernel
theorem dX4_goOn_69 : decode cX4_goOn 69 = .ok (.getfield 124, 3) := by decide +kernel
theorem dX4_goOn_72 : decode cX4_goOn 72 = .ok (.if_icmp .lt 21, 3) := by decide +kernel
theorem dX4_goOn_75 : decode cX4_goOn 75 = .ok (.iload 4, 2) := by decide +kernel
theorem dX4_goOn_77 : decode cX4_goOn 77 = .ok (.aload_n 0, 1) := by decide +kernel
theorem dX4_goOn_78 : decode cX4_goOn 78 = .ok (.getfield 124, 3) := by decide +kernel
theorem dX4_goOn_81 : decode cX4_goOn 81 = .ok (.if_icmp .ne 13, 3) := by decide +kernel
theorem dX4_goOn_84 : decode cX4_goOn 84 = .ok (.iload 5, 2) := by decide +kernel
theorem dX4_goOn_86 : decode cX4_goOn 86 = .ok (.aload_n 0, 1) := by decide +kernel
theorem dX4_goOn_87 : decode cX4_goOn 87 = .ok (.getfield 127, 3) := by decide +kernel
theorem dX4_goOn_90 : decode cX4_goOn 90 = .ok (.if_icmp .lt 4, 3) := by decide +kernel
theorem dX4_goOn_93 : decode cX4_goOn 93 = .ok (.return_, 1) := by decide +kernel
theorem dX4_goOn_94 : decode cX4_goOn 94 = .ok (.iload_n 1, 1) := by decide +kernel
theorem dX4_goOn_95 : decode cX4_goOn 95 = .ok (.aload_n 0, 1) := by decide +kernel
theorem dX4_goOn_96 : decode cX4_goOn 96 = .ok (.getfield 121, 3) := by decide +kernel
theorem dX4_goOn_99 : decode cX4_goOn 99 = .ok (.if_icmp .ne 46, 3) := by decide +kernel
theorem dX4_goOn_102 : decode cX4_goOn 102 = .ok (.aload_n 0, 1) := by decide +kernel
theorem dX4_goOn_103 : decode cX4_goOn 103 = .ok (.iload_n 2, 1) := by decide +kernel
theorem dX4_goOn_104 : decode cX4_goOn 104 = .ok (.putfield 124, 3) := by decide +kernel
theorem dX4_goOn_107 : decode cX4_goOn 107 = .ok (.aload_n 0, 1) := by decide +kernel
theorem dX4_goOn_108 : decode cX4_goOn 108 = .ok (.iload_n 3, 1) := by decide +kernel
theorem dX4_goOn_109 : decode cX4_goOn 109 = .ok (.putfield 127, 3) := by decide +kernel
theorem dX4_goOn_112 : decode cX4_goOn 112 = .ok (.iconst 0, 1) := by decide +kernel
theorem dX4_goOn_113 : decode cX4_goOn 113 = .ok (.istore 6, 2) := by decide +kernel
theorem dX4_goOn_115 : decode cX4_goOn 115 = .ok (.iload 6, 2) := by decide +kernel
theorem dX4_goOn_117 : decode cX4_goOn 117 = .ok (.aload_n 0, 1) := by decide +kernel
theorem dX4_goOn_118 : decode cX4_goOn 118 = .ok (.getfield 121, 3) := by decide +kernel
theorem dX4_goOn_121 : decode cX4_goOn 121 = .ok (.if_icmp .ge 23, 3) := by decide +kernel
theorem dX4_goOn_124 : decode cX4_goOn 124 = .ok (.aload_n 0, 1) := by decide +kernel
theorem dX4_goOn_125 : decode cX4_goOn 125 = .ok (.getfield 49, 3) := by decide +kernel
theorem dX4_goOn_128 : decode cX4_goOn 128 = .ok (.iload 6, 2) := by decide +kernel
theorem dX4_goOn_130 : decode cX4_goOn 130 = .ok (.aload_n 0, 1) := by decide +kernel
theorem dX4_goOn_131 : decode cX4_goOn 131 = .ok (.getfield 46, 3) := by decide +kernel
theorem dX4_goOn_134 : decode cX4_goOn 134 = .ok (.iload 6, 2) := by decide +kernel
theorem dX4_goOn_136 : decode cX4_goOn 136 = .ok (.iaload, 1) := by decide +kernel
theorem dX4_goOn_137 : decode cX4_goOn 137 = .ok (.iastore, 1) := by decide +kernel
theorem dX4_goOn_138 : decode cX4_goOn 138 = .ok (.iinc 6 1, 3) := by decide +kernel
theorem dX4_goOn_141 : decode cX4_goOn 141 = .ok (.goto (-26), 3) := by decide +kernel
theorem dX4_goOn_144 : decode cX4_goOn 144 = .ok (.return_, 1) := by decide +kernel
theorem dX4_goOn_145 : decode cX4_goOn 145 = .ok (.aload_n 0, 1) := by decide +kernel
theorem dX4_goOn_146 : decode cX4_goOn 146 = .ok (.aload_n 0, 1) := by decide +kernel
theorem dX4_goOn_147 : decode cX4_goOn 147 = .ok (.getfield 25, 3) := by decide +kernel
theorem dX4_goOn_150 : decode cX4_goOn 150 = .ok (.iload_n 1, 1) := by decide +kernel
theorem dX4_goOn_151 : decode cX4_goOn 151 = .ok (.iaload, 1) := by decide +kernel
theorem dX4_goOn_152 : decode cX4_goOn 152 = .ok (.iconst 1, 1) := by decide +kernel
theorem dX4_goOn_153 : decode cX4_goOn 153 = .ok (.invokevirtual 70, 3) := by decide +kernel
theorem dX4_goOn_156 : decode cX4_goOn 156 = .ok (.istore 6, 2) := by decide +kernel
theorem dX4_goOn_158 : decode cX4_goOn 158 = .ok (.iconst 0, 1) := by decide +kernel
theorem dX4_goOn_159 : decode cX4_goOn 159 = .ok (.istore 7, 2) := by decide +kernel
theorem dX4_goOn_161 : decode cX4_goOn 161 = .ok (.iload 7, 2) := by decide +kernel
theorem dX4_goOn_163 : decode cX4_goOn 163 = .ok (.aload_n 0, 1) := by decide +kernel
theorem dX4_goOn_164 : decode cX4_goOn 164 = .ok (.getfield 34, 3) := by decide +kernel
theorem dX4_goOn_167 : decode cX4_goOn 167 = .ok (.iload_n 1, 1) := by decide +kernel
theorem dX4_goOn_168 : decode cX4_goOn 168 = .ok (.iaload, 1) := by decide +kernel
theorem dX4_goOn_169 : decode cX4_goOn 169 = .ok (.if_icmp .ge 171, 3) := by decide +kernel
theorem dX4_goOn_172 : decode cX4_goOn 172 = .ok (.aload_n 0, 1) := by decide +kernel
theorem dX4_goOn_173 : decode cX4_goOn 173 = .ok (.getfield 28, 3) := by decide +kernel
theorem dX4_goOn_176 : decode cX4_goOn 176 = .ok (.bipush 72, 2) := by decide +kernel
theorem dX4_goOn_178 : decode cX4_goOn 178 = .ok (.iload_n 1, 1) := by decide +kernel
theorem dX4_goOn_179 : decode cX4_goOn 179 = .ok (.imul, 1) := by decide +kernel
theorem dX4_goOn_180 : decode cX4_goOn 180 = .ok (.iload 7, 2) := by decide +kernel
theorem dX4_goOn_182 : decode cX4_goOn 182 = .ok (.iadd, 1) := by decide +kernel
theorem dX4_goOn_183 : decode cX4_goOn 183 = .ok (.iaload, 1) := by decide +kernel
theorem dX4_goOn_184 : decode cX4_goOn 184 = .ok (.bipush 9, 2) := by decide +kernel
theorem dX4_goOn_186 : decode cX4_goOn 186 = .ok (.idiv, 1) := by decide +kernel
theorem dX4_goOn_187 : decode cX4_goOn 187 = .ok (.istore 8, 2) := by decide +kernel
theorem dX4_goOn_189 : decode cX4_goOn 189 = .ok (.aload_n 0, 1) := by decide +kernel
theorem dX4_goOn_190 : decode cX4_goOn 190 = .ok (.getfield 28, 3) := by decide +kernel
theorem dX4_goOn_193 : decode cX4_goOn 193 = .ok (.bipush 72, 2) := by decide +kernel
theorem dX4_goOn_195 : decode cX4_goOn 195 = .ok (.iload_n 1, 1) := by decide +kernel
theorem dX4_goOn_196 : decode cX4_goOn 196 = .ok (.imul, 1) := by decide +kernel
theorem dX4_goOn_197 : decode cX4_goOn 197 = .ok (.iload 7, 2) := by decide +kernel
theorem dX4_goOn_199 : decode cX4_goOn 199 = .ok (.iadd, 1) := by decide +kernel
theorem dX4_goOn_200 : decode cX4_goOn 200 = .ok (.iaload, 1) := by decide +kernel
theorem dX4_goOn_201 : decode cX4_goOn 201 = .ok (.bipush 9, 2) := by decide +kernel
theorem dX4_goOn_203 : decode cX4_goOn 203 = .ok (.irem, 1) := by decide +kernel
theorem dX4_goOn_204 : decode cX4_goOn 204 = .ok (.iconst 1, 1) := by decide +kernel
theorem dX4_goOn_205 : decode cX4_goOn 205 = .ok (.isub, 1) := by decide +kernel
theorem dX4_goOn_206 : decode cX4_goOn 206 = .ok (.istore 9, 2) := by decide +kernel
theorem dX4_goOn_208 : decode cX4_goOn 208 = .ok (.aload_n 0, 1) := by decide +kernel
theorem dX4_goOn_209 : decode cX4_goOn 209 = .ok (.iload 8, 2) := by decide +kernel
theorem dX4_goOn_211 : decode cX4_goOn 211 = .ok (.iload 6, 2) := by decide +kernel
theorem dX4_goOn_213 : decode cX4_goOn 213 = .ok (.invokevirtual 130, 3) := by decide +kernel
theorem dX4_goOn_216 : decode cX4_goOn 216 = .ok (.ifCond .eq 118, 3) := by decide +kernel
theorem dX4_goOn_219 : decode cX4_goOn 219 = .ok (.aload_n 0, 1) := by decide +kernel
theorem dX4_goOn_220 : decode cX4_goOn 220 = .ok (.iload 9, 2) := by decide +kernel
theorem dX4_goOn_222 : decode cX4_goOn 222 = .ok (.iload 6, 2) := by decide +kernel
theorem dX4_goOn_224 : decode cX4_goOn 224 = .ok (.invokevirtual 130, 3) := by decide +kernel
theorem dX4_goOn_227 : decode cX4_goOn 227 = .ok (.ifCond .ne 6, 3) := by decide +kernel
theorem dX4_goOn_230 : decode cX4_goOn 230 = .ok (.goto 104, 3) := by decide +kernel
theorem dX4_goOn_233 : decode cX4_goOn 233 = .ok (.aload_n 0, 1) := by decide +kernel
theorem dX4_goOn_234 : decode cX4_goOn 234 = .ok (.getfield 43, 3) := by decide +kernel
theorem dX4_goOn_237 : decode cX4_goOn 237 = .ok (.iload 8, 2) := by decide +kernel
theorem dX4_goOn_239 : decode cX4_goOn 239 = .ok (.dup2, 1) := by decide +kernel
theorem dX4_goOn_240 : decode cX4_goOn 240 = .ok (.iaload, 1) := by decide +kernel
theorem dX4_goOn_241 : decode cX4_goOn 241 = .ok (.iload 6, 2) := by decide +kernel
theorem dX4_goOn_243 : decode cX4_goOn 243 = .ok (.iadd, 1) := by decide +kernel
theorem dX4_goOn_244 : decode cX4_goOn 244 = .ok (.iastore, 1) := by decide +kernel
theorem dX4_goOn_245 : decode cX4_goOn 245 = .ok (.iload 9, 2) := by decide +kernel
theorem dX4_goOn_247 : decode cX4_goOn 247 = .ok (.ifCond .lt 15, 3) := by decide +kernel
theorem dX4_goOn_250 : decode cX4_goOn 250 = .ok (.aload_n 0, 1) := by decide +kernel
theorem dX4_goOn_251 : decode cX4_goOn 251 = .ok (.getfield 43, 3) := by decide +kernel
theorem dX4_goOn_254 : decode cX4_goOn 254 = .ok (.iload 9, 2) := by decide +kernel
theorem dX4_goOn_256 : decode cX4_goOn 256 = .ok (.dup2, 1) := by decide +kernel
theorem dX4_goOn_257 : decode cX4_goOn 257 = .ok (.iaload, 1) := by decide +kernel
theorem dX4_goOn_258 : decode cX4_goOn 258 = .ok (.iload 6, 2) := by decide +kernel
theorem dX4_goOn_260 : decode cX4_goOn 260 = .ok (.iadd, 1) := by decide +kernel
theorem dX4_goOn_261 : decode cX4_goOn 261 = .ok (.iastore, 1) := by decide +kernel
theorem dX4_goOn_262 : decode cX4_goOn 262 = .ok (.aload_n 0, 1) := by decide +kernel
theorem dX4_goOn_263 : decode cX4_goOn 263 = .ok (.getfield 46, 3) := by decide +kernel
theorem dX4_goOn_266 : decode cX4_goOn 266 = .ok (.iload_n 1, 1) := by decide +kernel
theorem dX4_goOn_267 : decode cX4_goOn 267 = .ok (.aload_n 0, 1) := by decide +kernel
theorem dX4_goOn_268 : decode cX4_goOn 268 = .ok (.getfield 28, 3) := by decide +kernel
theorem dX4_goOn_271 : decode cX4_goOn 271 = .ok (.bipush 72, 2) := by decide +kernel
theorem dX4_goOn_273 : decode cX4_goOn 273 = .ok (.iload_n 1, 1) := by decide +kernel
theorem dX4_goOn_274 : decode cX4_goOn 274 = .ok (.imul, 1) := by decide +kernel
theorem dX4_goOn_275 : decode cX4_goOn 275 = .ok (.iload 7, 2) := by decide +kernel
theorem dX4_goOn_277 : decode cX4_goOn 277 = .ok (.iadd, 1) := by decide +kernel
theorem dX4_goOn_278 : decode cX4_goOn 278 = .ok (.iaload, 1) := by decide +kernel
theorem dX4_goOn_279 : decode cX4_goOn 279 = .ok (.iastore, 1) := by decide +kernel
theorem dX4_goOn_280 : decode cX4_goOn 280 = .ok (.aload_n 0, 1) := by decide +kernel
theorem dX4_goOn_281 : decode cX4_goOn 281 = .ok (.iload_n 1, 1) := by decide +kernel
theorem dX4_goOn_282 : decode cX4_goOn 282 = .ok (.iconst 1, 1) := by decide +kernel
theorem dX4_goOn_283 : decode cX4_goOn 283 = .ok (.iadd, 1) := by decide +kernel
theorem dX4_goOn_284 : decode cX4_goOn 284 = .ok (.iload_n 2, 1) := by decide +kernel
theorem dX4_goOn_285 : decode cX4_goOn 285 = .ok (.iload 6, 2) := by decide +kernel
theorem dX4_goOn_287 : decode cX4_goOn 287 = .ok (.iadd, 1) := by decide +kernel
theorem dX4_goOn_288 : decode cX4_goOn 288 = .ok (.iload_n 3, 1) := by decide +kernel
theorem dX4_goOn_289 : decode cX4_goOn 289 = .ok (.aload_n 0, 1) := by decide +kernel
theorem dX4_goOn_290 : decode cX4_goOn 290 = .ok (.getfield 31, 3) := by decide +kernel
theorem dX4_goOn_293 : decode cX4_goOn 293 = .ok (.bipush 72, 2) := by decide +kernel
theorem dX4_goOn_295 : decode cX4_goOn 295 = .ok (.iload_n 1, 1) := by decide +kernel
theorem dX4_goOn_296 : decode cX4_goOn 296 = .ok (.imul, 1) := by decide +kernel
theorem dX4_goOn_297 : decode cX4_goOn 297 = .ok (.iload 7, 2) := by decide +kernel
theorem dX4_goOn_299 : decode cX4_goOn 299 = .ok (.iadd, 1) := by decide +kernel
theorem dX4_goOn_300 : decode cX4_goOn 300 = .ok (.iaload, 1) := by decide +kernel
theorem dX4_goOn_301 : decode cX4_goOn 301 = .ok (.iadd, 1) := by decide +kernel
theorem dX4_goOn_302 : decode cX4_goOn 302 = .ok (.invokevirtual 133, 3) := by decide +kernel
theorem dX4_goOn_305 : decode cX4_goOn 305 = .ok (.aload_n 0, 1) := by decide +kernel
theorem dX4_goOn_306 : decode cX4_goOn 306 = .ok (.getfield 43, 3) := by decide +kernel
theorem dX4_goOn_309 : decode cX4_goOn 309 = .ok (.iload 8, 2) := by decide +kernel
theorem dX4_goOn_311 : decode cX4_goOn 311 = .ok (.dup2, 1) := by decide +kernel
theorem dX4_goOn_312 : decode cX4_goOn 312 = .ok (.iaload, 1) := by decide +kernel
theorem dX4_goOn_313 : decode cX4_goOn 313 = .ok (.iload 6, 2) := by decide +kernel
theorem dX4_goOn_315 : decode cX4_goOn 315 = .ok (.isub, 1) := by decide +kernel
theorem dX4_goOn_316 : decode cX4_goOn 316 = .ok (.iastore, 1) := by decide +kernel
theorem dX4_goOn_317 : decode cX4_goOn 317 = .ok (.iload 9, 2) := by decide +kernel
theorem dX4_goOn_319 : decode cX4_goOn 319 = .ok (.ifCond .lt 15, 3) := by decide +kernel
theorem dX4_goOn_322 : decode cX4_goOn 322 = .ok (.aload_n 0, 1) := by decide +kernel
theorem dX4_goOn_323 : decode cX4_goOn 323 = .ok (.getfield 43, 3) := by decide +kernel
theorem dX4_goOn_326 : decode cX4_goOn 326 = .ok (.iload 9, 2) := by decide +kernel
theorem dX4_goOn_328 : decode cX4_goOn 328 = .ok (.dup2, 1) := by decide +kernel
theorem dX4_goOn_329 : decode cX4_goOn 329 = .ok (.iaload, 1) := by decide +kernel
theorem dX4_goOn_330 : decode cX4_goOn 330 = .ok (.iload 6, 2) := by decide +kernel
theorem dX4_goOn_332 : decode cX4_goOn 332 = .ok (.isub, 1) := by decide +kernel
theorem dX4_goOn_333 : decode cX4_goOn 333 = .ok (.iastore, 1) := by decide +kernel
theorem dX4_goOn_334 : decode cX4_goOn 334 = .ok (.iinc 7 1, 3) := by decide +kernel
theorem dX4_goOn_337 : decode cX4_goOn 337 = .ok (.goto (-176), 3) := by decide +kernel
theorem dX4_goOn_340 : decode cX4_goOn 340 = .ok (.aload_n 0, 1) := by decide +kernel
theorem dX4_goOn_341 : decode cX4_goOn 341 = .ok (.getfield 46, 3) := by decide +kernel
theorem dX4_goOn_344 : decode cX4_goOn 344 = .ok (.iload_n 1, 1) := by decide +kernel
theorem dX4_goOn_345 : decode cX4_goOn 345 = .ok (.iconst (-1), 1) := by decide +kernel
theorem dX4_goOn_346 : decode cX4_goOn 346 = .ok (.iastore, 1) := by decide +kernel
theorem dX4_goOn_347 : decode cX4_goOn 347 = .ok (.aload_n 0, 1) := by decide +kernel
theorem dX4_goOn_348 : decode cX4_goOn 348 = .ok (.iload_n 1, 1) := by decide +kernel
theorem dX4_goOn_349 : decode cX4_goOn 349 = .ok (.iconst 1, 1) := by decide +kernel
theorem dX4_goOn_350 : decode cX4_goOn 350 = .ok (.iadd, 1) := by decide +kernel
theorem dX4_goOn_351 : decode cX4_goOn 351 = .ok (.iload_n 2, 1) := by decide +kernel
theorem dX4_goOn_352 : decode cX4_goOn 352 = .ok (.iload_n 3, 1) := by decide +kernel
theorem dX4_goOn_353 : decode cX4_goOn 353 = .ok (.invokevirtual 133, 3) := by decide +kernel
theorem dX4_goOn_356 : decode cX4_goOn 356 = .ok (.return_, 1) := by decide +kernel
theorem dX4_strandedMany_0 : decode cX4_strandedMany 0 = .ok (.iconst 0, 1) := by decide +kernel
theorem dX4_strandedMany_1 : decode cX4_strandedMany 1 = .ok (.istore_n 1, 1) := by decide +kernel
theorem dX4_strandedMany_2 : decode cX4_strandedMany 2 = .ok (.iconst 0, 1) := by decide +kernel
theorem dX4_strandedMany_3 : decode cX4_strandedMany 3 = .ok (.istore_n 2, 1) := by decide +kernel
theorem dX4_strandedMany_4 : decode cX4_strandedMany 4 = .ok (.iload_n 2, 1) := by decide +kernel
theorem dX4_strandedMany_5 : decode cX4_strandedMany 5 = .ok (.aload_n 0, 1) := by decide +kernel
theorem dX4_strandedMany_6 : decode cX4_strandedMany 6 = .ok (.getfield 63, 3) := by decide +kernel
theorem dX4_strandedMany_9 : decode cX4_strandedMany 9 = .ok (.if_icmp .ge 32, 3) := by decide +kernel
theorem dX4_strandedMany_12 : decode cX4_strandedMany 12 = .ok (.aload_n 0, 1) := by decide +kernel
theorem dX4_strandedMany_13 : decode cX4_strandedMany 13 = .ok (.iload_n 2, 1) := by decide +kernel
theorem dX4_strandedMany_14 : decode cX4_strandedMany 14 = .ok (.iconst 5, 1) := by decide +kernel
theorem dX4_strandedMany_15 : decode cX4_strandedMany 15 = .ok (.invokevirtual 70, 3) := by decide +kernel
theorem dX4_strandedMany_18 : decode cX4_strandedMany 18 = .ok (.ifCond .le 17, 3) := by decide +kernel
theorem dX4_strandedMany_21 : decode cX4_strandedMany 21 = .ok (.aload_n 0, 1) := by decide +kernel
theorem dX4_strandedMany_22 : decode cX4_strandedMany 22 = .ok (.iload_n 2, 1) := by decide +kernel
theorem dX4_strandedMany_23 : decode cX4_strandedMany 23 = .ok (.bipush 7, 2) := by decide +kernel
theorem dX4_strandedMany_25 : decode cX4_strandedMany 25 = .ok (.invokevirtual 70, 3) := by decide +kernel
theorem dX4_strandedMany_28 : decode cX4_strandedMany 28 = .ok (.iconst (-1), 1) := by decide +kernel
theorem dX4_strandedMany_29 : decode cX4_strandedMany 29 = .ok (.if_icmp .ne 6, 3) := by decide +kernel
theorem dX4_strandedMany_32 : decode cX4_strandedMany 32 = .ok (.iinc 1 1, 3) := by decide +kernel
theorem dX4_strandedMany_35 : decode cX4_strandedMany 35 = .ok (.iinc 2 1, 3) := by decide +kernel
theorem dX4_strandedMany_38 : decode cX4_strandedMany 38 = .ok (.goto (-34), 3) := by decide +kernel
theorem dX4_strandedMany_41 : decode cX4_strandedMany 41 = .ok (.iload_n 1, 1) := by decide +kernel
theorem dX4_strandedMany_42 : decode cX4_strandedMany 42 = .ok (.ireturn, 1) := by decide +kernel
theorem dX4_stranded_0 : decode cX4_stranded 0 = .ok (.aload_n 0, 1) := by decide +kernel
theorem dX4_stranded_1 : decode cX4_stranded 1 = .ok (.iconst 0, 1) := by decide +kernel
theorem dX4_stranded_2 : decode cX4_stranded 2 = .ok (.putfield 52, 3) := by decide +kernel
theorem dX4_stranded_5 : decode cX4_stranded 5 = .ok (.aload_n 0, 1) := by decide +kernel
theorem dX4_stranded_6 : decode cX4_stranded 6 = .ok (.invokevirtual 136, 3) := by decide +kernel
theorem dX4_stranded_9 : decode cX4_stranded 9 = .ok (.ireturn, 1) := by decide +kernel
theorem dX4_move_0 : decode cX4_move 0 = .ok (.aload_n 0, 1) := by decide +kernel
theorem dX4_move_1 : decode cX4_move 1 = .ok (.iconst 0, 1) := by decide +kernel
theorem dX4_move_2 : decode cX4_move 2 = .ok (.putfield 52, 3) := by decide +kernel
theorem dX4_move_5 : decode cX4_move 5 = .ok (.aload_n 0, 1) := by decide +kernel
theorem dX4_move_6 : decode cX4_move 6 = .ok (.invokevirtual 136, 3) := by decide +kernel
theorem dX4_move_9 : decode cX4_move 9 = .ok (.bipush 6, 2) := by decide +kernel
theorem dX4_move_11 : decode cX4_move 11 = .ok (.if_icmp .le 5, 3) := by decide +kernel
theorem dX4_move_14 : decode cX4_move 14 = .ok (.iconst (-1), 1) := by decide +kernel
theorem dX4_move_15 : decode cX4_move 15 = .ok (.ireturn, 1) := by decide +kernel
theorem dX4_move_16 : decode cX4_move 16 = .ok (.aload_n 0, 1) := by decide +kernel
theorem dX4_move_17 : decode cX4_move 17 = .ok (.iconst 0, 1) := by decide +kernel
theorem dX4_move_18 : decode cX4_move 18 = .ok (.putfield 121, 3) := by decide +kernel
theorem dX4_move_21 : decode cX4_move 21 = .ok (.iconst 0, 1) := by decide +kernel
theorem dX4_move_22 : decode cX4_move 22 = .ok (.istore_n 1, 1) := by decide +kernel
theorem dX4_move_23 : decode cX4_move 23 = .ok (.iload_n 1, 1) := by decide +kernel
theorem dX4_move_24 : decode cX4_move 24 = .ok (.aload_n 0, 1) := by decide +kernel
theorem dX4_move_25 : decode cX4_move 25 = .ok (.getfield 63, 3) := by decide +kernel
theorem dX4_move_28 : decode cX4_move 28 = .ok (.if_icmp .ge 52, 3) := by decide +kernel
theorem dX4_move_31 : decode cX4_move 31 = .ok (.aload_n 0, 1) := by decide +kernel
theorem dX4_move_32 : decode cX4_move 32 = .ok (.iload_n 1, 1) := by decide +kernel
theorem dX4_move_33 : decode cX4_move 33 = .ok (.iconst 5, 1) := by decide +kernel
theorem dX4_move_34 : decode cX4_move 34 = .ok (.invokevirtual 70, 3) := by decide +kernel
theorem dX4_move_37 : decode cX4_move 37 = .ok (.ifCond .eq 37, 3) := by decide +kernel
theorem dX4_move_40 : decode cX4_move 40 = .ok (.aload_n 0, 1) := by decide +kernel
theorem dX4_move_41 : decode cX4_move 41 = .ok (.iload_n 1, 1) := by decide +kernel
theorem dX4_move_42 : decode cX4_move 42 = .ok (.bipush 7, 2) := by decide +kernel
theorem dX4_move_44 : decode cX4_move 44 = .ok (.invokevirtual 70, 3) := by decide +kernel
theorem dX4_move_47 : decode cX4_move 47 = .ok (.iconst (-1), 1) := by decide +kernel
theorem dX4_move_48 : decode cX4_move 48 = .ok (.if_icmp .eq 6, 3) := by decide +kernel
theorem dX4_move_51 : decode cX4_move 51 = .ok (.goto 23, 3) := by decide +kernel
theorem dX4_move_54 : decode cX4_move 54 = .ok (.aload_n 0, 1) := by decide +kernel
theorem dX4_move_55 : decode cX4_move 55 = .ok (.getfield 25, 3) := by decide +kernel
theorem dX4_move_58 : decode cX4_move 58 = .ok (.aload_n 0, 1) := by decide +kernel
theorem dX4_move_59 : decode cX4_move 59 = .ok (.getfield 121, 3) := by decide +kernel
theorem dX4_move_62 : decode cX4_move 62 = .ok (.iload_n 1, 1) := by decide +kernel
theorem dX4_move_63 : decode cX4_move 63 = .ok (.iastore, 1) := by decide +kernel
theorem dX4_move_64 : decode cX4_move 64 = .ok (.aload_n 0, 1) := by decide +kernel
theorem dX4_move_65 : decode cX4_move 65 = .ok (.dup, 1) := by decide +kernel
theorem dX4_move_66 : decode cX4_move 66 = .ok (.getfield 121, 3) := by decide +kernel
theorem dX4_move_69 : decode cX4_move 69 = .ok (.iconst 1, 1) := by decide +kernel
theorem dX4_move_70 : decode cX4_move 70 = .ok (.iadd, 1) := by decide +kernel
theorem dX4_move_71 : decode cX4_move 71 = .ok (.putfield 121, 3) := by decide +kernel
theorem dX4_move_74 : decode cX4_move 74 = .ok (.iinc 1 1, 3) := by decide +kernel
theorem dX4_move_77 : decode cX4_move 77 = .ok (.goto (-54), 3) := by decide +kernel
theorem dX4_move_80 : decode cX4_move 80 = .ok (.iconst 0, 1) := by decide +kernel
theorem dX4_move_81 : decode cX4_move 81 = .ok (.istore_n 1, 1) := by decide +kernel
theorem dX4_move_82 : decode cX4_move 82 = .ok (.iload_n 1, 1) := by decide +kernel
theorem dX4_move_83 : decode cX4_move 83 = .ok (.aload_n 0, 1) := by decide +kernel
theorem dX4_move_84 : decode cX4_move 84 = .ok (.getfield 121, 3) := by decide +kernel
theorem dX4_move_87 : decode cX4_move 87 = .ok (.if_icmp .ge 14, 3) := by decide +kernel
theorem dX4_move_90 : decode cX4_move 90 = .ok (.aload_n 0, 1) := by decide +kernel
theorem dX4_move_91 : decode cX4_move 91 = .ok (.iload_n 1, 1) := by decide +kernel
theorem dX4_move_92 : decode cX4_move 92 = .ok (.invokevirtual 140, 3) := by decide +kernel
theorem dX4_move_95 : decode cX4_move 95 = .ok (.iinc 1 1, 3) := by decide +kernel
theorem dX4_move_98 : decode cX4_move 98 = .ok (.goto (-16), 3) := by decide +kernel
theorem dX4_move_101 : decode cX4_move 101 = .ok (.iconst 0, 1) := by decide +kernel
theorem dX4_move_102 : decode cX4_move 102 = .ok (.istore_n 1, 1) := by decide +kernel
theorem dX4_move_103 : decode cX4_move 103 = .ok (.iload_n 1, 1) := by decide +kernel
theorem dX4_move_104 : decode cX4_move 104 = .ok (.aload_n 0, 1) := by decide +kernel
theorem dX4_move_105 : decode cX4_move 105 = .ok (.getfield 56, 3) := by decide +kernel
theorem dX4_move_108 : decode cX4_move 108 = .ok (.if_icmp .ge 41, 3) := by decide +kernel
theorem dX4_move_111 : decode cX4_move 111 = .ok (.aload_n 0, 1) := by decide +kernel
theorem dX4_move_112 : decode cX4_move 112 = .ok (.getfield 43, 3) := by decide +kernel
theorem dX4_move_115 : decode cX4_move 115 = .ok (.iload_n 1, 1) := by decide +kernel
theorem dX4_move_116 : decode cX4_move 116 = .ok (.aload_n 0, 1) := by decide +kernel
theorem dX4_move_117 : decode cX4_move 117 = .ok (.iload_n 1, 1) := by decide +kernel
theorem dX4_move_118 : decode cX4_move 118 = .ok (.invokevirtual 77, 3) := by decide +kernel
theorem dX4_move_121 : decode cX4_move 121 = .ok (.iastore, 1) := by decide +kernel
theorem dX4_move_122 : decode cX4_move 122 = .ok (.aload_n 0, 1) := by decide +kernel
theorem dX4_move_123 : decode cX4_move 123 = .ok (.getfield 40, 3) := by decide +kernel
theorem dX4_move_126 : decode cX4_move 126 = .ok (.iload_n 1, 1) := by decide +kernel
theorem dX4_move_127 : decode cX4_move 127 = .ok (.aload_n 0, 1) := by decide +kernel
theorem dX4_move_128 : decode cX4_move 128 = .ok (.getfield 43, 3) := by decide +kernel
theorem dX4_move_131 : decode cX4_move 131 = .ok (.iload_n 1, 1) := by decide +kernel
theorem dX4_move_132 : decode cX4_move 132 = .ok (.iaload, 1) := by decide +kernel
theorem dX4_move_133 : decode cX4_move 133 = .ok (.aload_n 0, 1) := by decide +kernel
theorem dX4_move_134 : decode cX4_move 134 = .ok (.iload_n 1, 1) := by decide +kernel
theorem dX4_move_135 : decode cX4_move 135 = .ok (.iconst 4, 1) := by decide +kernel
theorem dX4_move_136 : decode cX4_move 136 = .ok (.invokevirtual 74, 3) := by decide +kernel
theorem dX4_move_139 : decode cX4_move 139 = .ok (.invokestatic 81, 3) := by decide +kernel
theorem dX4_move_142 : decode cX4_move 142 = .ok (.iastore, 1) := by decide +kernel
theorem dX4_move_143 : decode cX4_move 143 = .ok (.iinc 1 1, 3) := by decide +kernel
theorem dX4_move_146 : decode cX4_move 146 = .ok (.goto (-43), 3) := by decide +kernel
theorem dX4_move_149 : decode cX4_move 149 = .ok (.aload_n 0, 1) := by decide +kernel
theorem dX4_move_150 : decode cX4_move 150 = .ok (.iconst (-1), 1) := by decide +kernel
theorem dX4_move_151 : decode cX4_move 151 = .ok (.putfield 124, 3) := by decide +kernel
theorem dX4_move_154 : decode cX4_move 154 = .ok (.aload_n 0, 1) := by decide +kernel
theorem dX4_move_155 : decode cX4_move 155 = .ok (.iconst 0, 1) := by decide +kernel
theorem dX4_move_156 : decode cX4_move 156 = .ok (.putfield 127, 3) := by decide +kernel
theorem dX4_move_159 : decode cX4_move 159 = .ok (.aload_n 0, 1) := by decide +kernel
theorem dX4_move_160 : decode cX4_move 160 = .ok (.iconst 0, 1) := by decide +kernel
theorem dX4_move_161 : decode cX4_move 161 = .ok (.iconst 0, 1) := by decide +kernel
theorem dX4_move_162 : decode cX4_move 162 = .ok (.iconst 0, 1) := by decide +kernel
theorem dX4_move_163 : decode cX4_move 163 = .ok (.invokevirtual 133, 3) := by decide +kernel
theorem dX4_move_166 : decode cX4_move 166 = .ok (.iconst 0, 1) := by decide +kernel
theorem dX4_move_167 : decode cX4_move 167 = .ok (.istore_n 1, 1) := by decide +kernel
theorem dX4_move_168 : decode cX4_move 168 = .ok (.iload_n 1, 1) := by decide +kernel
theorem dX4_move_169 : decode cX4_move 169 = .ok (.aload_n 0, 1) := by decide +kernel
theorem dX4_move_170 : decode cX4_move 170 = .ok (.getfield 121, 3) := by decide +kernel
theorem dX4_move_173 : decode cX4_move 173 = .ok (.if_icmp .ge 66, 3) := by decide +kernel
theorem dX4_move_176 : decode cX4_move 176 = .ok (.aload_n 0, 1) := by decide +kernel
theorem dX4_move_177 : decode cX4_move 177 = .ok (.getfield 49, 3) := by decide +kernel
theorem dX4_move_180 : decode cX4_move 180 = .ok (.iload_n 1, 1) := by decide +kernel
theorem dX4_move_181 : decode cX4_move 181 = .ok (.iaload, 1) := by decide +kernel
theorem dX4_move_182 : decode cX4_move 182 = .ok (.iconst (-1), 1) := by decide +kernel
theorem dX4_move_183 : decode cX4_move 183 = .ok (.if_icmp .ne 6, 3) := by decide +kernel
theorem dX4_move_186 : decode cX4_move 186 = .ok (.goto 47, 3) := by decide +kernel
theorem dX4_move_189 : decode cX4_move 189 = .ok (.aload_n 0, 1) := by decide +kernel
theorem dX4_move_190 : decode cX4_move 190 = .ok (.aload_n 0, 1) := by decide +kernel
theorem dX4_move_191 : decode cX4_move 191 = .ok (.getfield 25, 3) := by decide +kernel
theorem dX4_move_194 : decode cX4_move 194 = .ok (.iload_n 1, 1) := by decide +kernel
theorem dX4_move_195 : decode cX4_move 195 = .ok (.iaload, 1) := by decide +kernel
theorem dX4_move_196 : decode cX4_move 196 = .ok (.bipush 7, 2) := by decide +kernel
theorem dX4_move_198 : decode cX4_move 198 = .ok (.aload_n 0, 1) := by decide +kernel
theorem dX4_move_199 : decode cX4_move 199 = .ok (.getfield 49, 3) := by decide +kernel
theorem dX4_move_202 : decode cX4_move 202 = .ok (.iload_n 1, 1) := by decide +kernel
theorem dX4_move_203 : decode cX4_move 203 = .ok (.iaload, 1) := by decide +kernel
theorem dX4_move_204 : decode cX4_move 204 = .ok (.bipush 9, 2) := by decide +kernel
theorem dX4_move_206 : decode cX4_move 206 = .ok (.idiv, 1) := by decide +kernel
theorem dX4_move_207 : decode cX4_move 207 = .ok (.invokevirtual 106, 3) := by decide +kernel
theorem dX4_move_210 : decode cX4_move 210 = .ok (.aload_n 0, 1) := by decide +kernel
theorem dX4_move_211 : decode cX4_move 211 = .ok (.aload_n 0, 1) := by decide +kernel
theorem dX4_move_212 : decode cX4_move 212 = .ok (.getfield 25, 3) := by decide +kernel
theorem dX4_move_215 : decode cX4_move 215 = .ok (.iload_n 1, 1) := by decide +kernel
theorem dX4_move_216 : decode cX4_move 216 = .ok (.iaload, 1) := by decide +kernel
theorem dX4_move_217 : decode cX4_move 217 = .ok (.bipush 8, 2) := by decide +kernel
theorem dX4_move_219 : decode cX4_move 219 = .ok (.aload_n 0, 1) := by decide +kernel
theorem dX4_move_220 : decode cX4_move 220 = .ok (.getfield 49, 3) := by decide +kernel
theorem dX4_move_223 : decode cX4_move 223 = .ok (.iload_n 1, 1) := by decide +kernel
theorem dX4_move_224 : decode cX4_move 224 = .ok (.iaload, 1) := by decide +kernel
theorem dX4_move_225 : decode cX4_move 225 = .ok (.bipush 9, 2) := by decide +kernel
theorem dX4_move_227 : decode cX4_move 227 = .ok (.irem, 1) := by decide +kernel
theorem dX4_move_228 : decode cX4_move 228 = .ok (.iconst 1, 1) := by decide +kernel
theorem dX4_move_229 : decode cX4_move 229 = .ok (.isub, 1) := by decide +kernel
theorem dX4_move_230 : decode cX4_move 230 = .ok (.invokevirtual 106, 3) := by decide +kernel
theorem dX4_move_233 : decode cX4_move 233 = .ok (.iinc 1 1, 3) := by decide +kernel
theorem dX4_move_236 : decode cX4_move 236 = .ok (.goto (-68), 3) := by decide +kernel
theorem dX4_move_239 : decode cX4_move 239 = .ok (.aload_n 0, 1) := by decide +kernel
theorem dX4_move_240 : decode cX4_move 240 = .ok (.getfield 124, 3) := by decide +kernel
theorem dX4_move_243 : decode cX4_move 243 = .ok (.ireturn, 1) := by decide +kernel
theorem dX4_undo_0 : decode cX4_undo 0 = .ok (.aload_n 0, 1) := by decide +kernel
theorem dX4_undo_1 : decode cX4_undo 1 = .ok (.iconst 0, 1) := by decide +kernel
theorem dX4_undo_2 : decode cX4_undo 2 = .ok (.putfield 52, 3) := by decide +kernel
theorem dX4_undo_5 : decode cX4_undo 5 = .ok (.iconst 0, 1) := by decide +kernel
theorem dX4_undo_6 : decode cX4_undo 6 = .ok (.istore_n 1, 1) := by decide +kernel
theorem dX4_undo_7 : decode cX4_undo 7 = .ok (.iconst 0, 1) := by decide +kernel
theorem dX4_undo_8 : decode cX4_undo 8 = .ok (.istore_n 2, 1) := by decide +kernel
theorem dX4_undo_9 : decode cX4_undo 9 = .ok (.iload_n 2, 1) := by decide +kernel
theorem dX4_undo_10 : decode cX4_undo 10 = .ok (.aload_n 0, 1) := by decide +kernel
theorem dX4_undo_11 : decode cX4_undo 11 = .ok (.getfield 63, 3) := by decide +kernel
theorem dX4_undo_14 : decode cX4_undo 14 = .ok (.if_icmp .ge 88, 3) := by decide +kernel
theorem dX4_undo_17 : decode cX4_undo 17 = .ok (.aload_n 0, 1) := by decide +kernel
theorem dX4_undo_18 : decode cX4_undo 18 = .ok (.iload_n 2, 1) := by decide +kernel
theorem dX4_undo_19 : decode cX4_undo 19 = .ok (.bipush 7, 2) := by decide +kernel
theorem dX4_undo_21 : decode cX4_undo 21 = .ok (.invokevirtual 70, 3) := by decide +kernel
theorem dX4_undo_24 : decode cX4_undo 24 = .ok (.iconst (-1), 1) := by decide +kernel
theorem dX4_undo_25 : decode cX4_undo 25 = .ok (.if_icmp .ne 6, 3) := by decide +kernel
theorem dX4_undo_28 : decode cX4_undo 28 = .ok (.goto 68, 3) := by decide +kernel
theorem dX4_undo_31 : decode cX4_undo 31 = .ok (.aload_n 0, 1) := by decide +kernel
theorem dX4_undo_32 : decode cX4_undo 32 = .ok (.aload_n 0, 1) := by decide +kernel
theorem dX4_undo_33 : decode cX4_undo 33 = .ok (.iload_n 2, 1) := by decide +kernel
theorem dX4_undo_34 : decode cX4_undo 34 = .ok (.bipush 7, 2) := by decide +kernel
theorem dX4_undo_36 : decode cX4_undo 36 = .ok (.invokevirtual 70, 3) := by decide +kernel
theorem dX4_undo_39 : decode cX4_undo 39 = .ok (.bipush 6, 2) := by decide +kernel
theorem dX4_undo_41 : decode cX4_undo 41 = .ok (.invokevirtual 74, 3) := by decide +kernel
theorem dX4_undo_44 : decode cX4_undo 44 = .ok (.ifCond .ne 33, 3) := by decide +kernel
theorem dX4_undo_47 : decode cX4_undo 47 = .ok (.aload_n 0, 1) := by decide +kernel
theorem dX4_undo_48 : decode cX4_undo 48 = .ok (.iload_n 2, 1) := by decide +kernel
theorem dX4_undo_49 : decode cX4_undo 49 = .ok (.bipush 8, 2) := by decide +kernel
theorem dX4_undo_51 : decode cX4_undo 51 = .ok (.invokevirtual 70, 3) := by decide +kernel
theorem dX4_undo_54 : decode cX4_undo 54 = .ok (.iconst (-1), 1) := by decide +kernel
theorem dX4_undo_55 : decode cX4_undo 55 = .ok (.if_icmp .eq 41, 3) := by decide +kernel
theorem dX4_undo_58 : decode cX4_undo 58 = .ok (.aload_n 0, 1) := by decide +kernel
theorem dX4_undo_59 : decode cX4_undo 59 = .ok (.aload_n 0, 1) := by decide +kernel
theorem dX4_undo_60 : decode cX4_undo 60 = .ok (.iload_n 2, 1) := by decide +kernel
theorem dX4_undo_61 : decode cX4_undo 61 = .ok (.bipush 8, 2) := by decide +kernel
theorem dX4_undo_63 : decode cX4_undo 63 = .ok (.invokevirtual 70, 3) := by decide +kernel
theorem dX4_undo_66 : decode cX4_undo 66 = .ok (.bipush 6, 2) := by decide +kernel
theorem dX4_undo_68 : decode cX4_undo 68 = .ok (.invokevirtual 74, 3) := by decide +kernel
theorem dX4_undo_71 : decode cX4_undo 71 = .ok (.ifCond .ne 6, 3) := by decide +kernel
theorem dX4_undo_74 : decode cX4_undo 74 = .ok (.goto 22, 3) := by decide +kernel
theorem dX4_undo_77 : decode cX4_undo 77 = .ok (.aload_n 0, 1) := by decide +kernel
theorem dX4_undo_78 : decode cX4_undo 78 = .ok (.iload_n 2, 1) := by decide +kernel
theorem dX4_undo_79 : decode cX4_undo 79 = .ok (.bipush 7, 2) := by decide +kernel
theorem dX4_undo_81 : decode cX4_undo 81 = .ok (.iconst (-1), 1) := by decide +kernel
theorem dX4_undo_82 : decode cX4_undo 82 = .ok (.invokevirtual 106, 3) := by decide +kernel
theorem dX4_undo_85 : decode cX4_undo 85 = .ok (.aload_n 0, 1) := by decide +kernel
theorem dX4_undo_86 : decode cX4_undo 86 = .ok (.iload_n 2, 1) := by decide +kernel
theorem dX4_undo_87 : decode cX4_undo 87 = .ok (.bipush 8, 2) := by decide +kernel
theorem dX4_undo_89 : decode cX4_undo 89 = .ok (.iconst (-1), 1) := by decide +kernel
theorem dX4_undo_90 : decode cX4_undo 90 = .ok (.invokevirtual 106, 3) := by decide +kernel
theorem dX4_undo_93 : decode cX4_undo 93 = .ok (.iinc 1 1, 3) := by decide +kernel
theorem dX4_undo_96 : decode cX4_undo 96 = .ok (.iinc 2 1, 3) := by decide +kernel
theorem dX4_undo_99 : decode cX4_undo 99 = .ok (.goto (-90), 3) := by decide +kernel
theorem dX4_undo_102 : decode cX4_undo 102 = .ok (.iload_n 1, 1) := by decide +kernel
theorem dX4_undo_103 : decode cX4_undo 103 = .ok (.ireturn, 1) := by decide +kernel
end
section
theorem dL_of_0 : decode cL_of 0 = .ok (.aload_n 3, 1) := by decide +kernel
theorem dL_of_1 : decode cL_of 1 = .ok (.iconst 0, 1) := by decide +kernel
theorem dL_of_2 : decode cL_of 2 = .ok (.aload_n 0, 1) := by decide +kernel
theorem dL_of_3 : decode cL_of 3 = .ok (.iload_n 1, 1) := by decide +kernel
theorem dL_of_4 : decode cL_of 4 = .ok (.iload_n 2, 1) := by decide +kernel
theorem dL_of_5 : decode cL_of 5 = .ok (.invokevirtual 7, 3) := by decide +kernel
theorem dL_of_8 : decode cL_of 8 = .ok (.i2l, 1) := by decide +kernel
theorem dL_of_9 : decode cL_of 9 = .ok (.lastore, 1) := by decide +kernel
theorem dL_of_10 : decode cL_of 10 = .ok (.goto 7, 3) := by decide +kernel
theorem dL_of_13 : decode cL_of 13 = .ok (.astore 4, 2) := by decide +kernel
theorem dL_of_15 : decode cL_of 15 = .ok (.iconst 1, 1) := by decide +kernel
theorem dL_of_16 : decode cL_of 16 = .ok (.ireturn, 1) := by decide +kernel
theorem dL_of_17 : decode cL_of 17 = .ok (.iconst 0, 1) := by decide +kernel
theorem dL_of_18 : decode cL_of 18 = .ok (.ireturn, 1) := by decide +kernel
theorem dL_law_0 : decode cL_law 0 = .ok (.new 8, 3) := by decide +kernel
theorem dL_law_3 : decode cL_law 3 = .ok (.dup, 1) := by decide +kernel
theorem dL_law_4 : decode cL_law 4 = .ok (.invokespecial 15, 3) := by decide +kernel
theorem dL_law_7 : decode cL_law 7 = .ok (.astore_n 1, 1) := by decide +kernel
theorem dL_law_8 : decode cL_law 8 = .ok (.new 16, 3) := by decide +kernel
theorem dL_law_11 : decode cL_law 11 = .ok (.dup, 1) := by decide +kernel
theorem dL_law_12 : decode cL_law 12 = .ok (.invokespecial 18, 3) := by decide +kernel
theorem dL_law_15 : decode cL_law 15 = .ok (.astore_n 2, 1) := by decide +kernel
theorem dL_law_16 : decode cL_law 16 = .ok (.iconst 1, 1) := by decide +kernel
theorem dL_law_17 : decode cL_law 17 = .ok (.newarray .long, 2) := by decide +kernel
theorem dL_law_19 : decode cL_law 19 = .ok (.astore_n 3, 1) := by decide +kernel
theorem dL_law_20 : decode cL_law 20 = .ok (.iconst 0, 1) := by decide +kernel
theorem dL_law_21 : decode cL_law 21 = .ok (.istore 4, 2) := by decide +kernel
theorem dL_law_23 : decode cL_law 23 = .ok (.iload 4, 2) := by decide +kernel
theorem dL_law_25 : decode cL_law 25 = .ok (.aload_n 0, 1) := by decide +kernel
theorem dL_law_26 : decode cL_law 26 = .ok (.arraylength, 1) := by decide +kernel
theorem dL_law_27 : decode cL_law 27 = .ok (.bipush 7, 2) := by decide +kernel
theorem dL_law_29 : decode cL_law 29 = .ok (.isub, 1) := by decide +kernel
theorem dL_law_30 : decode cL_law 30 = .ok (.if_icmp .gt 729, 3) := by decide +kernel
theorem dL_law_33 : decode cL_law 33 = .ok (.aload_n 0, 1) := by decide +kernel
theorem dL_law_34 : decode cL_law 34 = .ok (.iload 4, 2) := by decide +kernel
theorem dL_law_36 : decode cL_law 36 = .ok (.iaload, 1) := by decide +kernel
theorem dL_law_37 : decode cL_law 37 = .ok (.bipush 15, 2) := by decide +kernel
theorem dL_law_39 : decode cL_law 39 = .ok (.iand, 1) := by decide +kernel
theorem dL_law_40 : decode cL_law 40 = .ok (.tableswitch 713 0 15 #[80, 167, 220, 309, 346, 383, 451, 476, 501, 526, 575, 600, 625, 674, 687, 700], 80) := by decide +kernel
theorem dL_law_120 : decode cL_law 120 = .ok (.aload_n 1, 1) := by decide +kernel
theorem dL_law_121 : decode cL_law 121 = .ok (.aload_n 0, 1) := by decide +kernel
theorem dL_law_122 : decode cL_law 122 = .ok (.iload 4, 2) := by decide +kernel
theorem dL_law_124 : decode cL_law 124 = .ok (.iconst 1, 1) := by decide +kernel
theorem dL_law_125 : decode cL_law 125 = .ok (.iadd, 1) := by decide +kernel
theorem dL_law_126 : decode cL_law 126 = .ok (.iaload, 1) := by decide +kernel
theorem dL_law_127 : decode cL_law 127 = .ok (.aload_n 0, 1) := by decide +kernel
theorem dL_law_128 : decode cL_law 128 = .ok (.iload 4, 2) := by decide +kernel
theorem dL_law_130 : decode cL_law 130 = .ok (.iconst 2, 1) := by decide +kernel
theorem dL_law_131 : decode cL_law 131 = .ok (.iadd, 1) := by decide +kernel
theorem dL_law_132 : decode cL_law 132 = .ok (.iaload, 1) := by decide +kernel
theorem dL_law_133 : decode cL_law 133 = .ok (.aload_n 0, 1) := by decide +kernel
theorem dL_law_134 : decode cL_law 134 = .ok (.iload 4, 2) := by decide +kernel
theorem dL_law_136 : decode cL_law 136 = .ok (.iconst 3, 1) := by decide +kernel
theorem dL_law_137 : decode cL_law 137 = .ok (.iadd, 1) := by decide +kernel
theorem dL_law_138 : decode cL_law 138 = .ok (.iaload, 1) := by decide +kernel
theorem dL_law_139 : decode cL_law 139 = .ok (.aload_n 0, 1) := by decide +kernel
theorem dL_law_140 : decode cL_law 140 = .ok (.iload 4, 2) := by decide +kernel
theorem dL_law_142 : decode cL_law 142 = .ok (.iconst 4, 1) := by decide +kernel
theorem dL_law_143 : decode cL_law 143 = .ok (.iadd, 1) := by decide +kernel
theorem dL_law_144 : decode cL_law 144 = .ok (.iaload, 1) := by decide +kernel
theorem dL_law_145 : decode cL_law 145 = .ok (.aload_n 0, 1) := by decide +kernel
theorem dL_law_146 : decode cL_law 146 = .ok (.iload 4, 2) := by decide +kernel
theorem dL_law_148 : decode cL_law 148 = .ok (.iconst 5, 1) := by decide +kernel
theorem dL_law_149 : decode cL_law 149 = .ok (.iadd, 1) := by decide +kernel
theorem dL_law_150 : decode cL_law 150 = .ok (.iaload, 1) := by decide +kernel
theorem dL_law_151 : decode cL_law 151 = .ok (.aload_n 0, 1) := by decide +kernel
theorem dL_law_152 : decode cL_law 152 = .ok (.iload 4, 2) := by decide +kernel
theorem dL_law_154 : decode cL_law 154 = .ok (.bipush 6, 2) := by decide +kernel
theorem dL_law_156 : decode cL_law 156 = .ok (.iadd, 1) := by decide +kernel
theorem dL_law_157 : decode cL_law 157 = .ok (.iaload, 1) := by decide +kernel
theorem dL_law_158 : decode cL_law 158 = .ok (.invokevirtual 19, 3) := by decide +kernel
theorem dL_law_161 : decode cL_law 161 = .ok (.aload_n 2, 1) := by decide +kernel
theorem dL_law_162 : decode cL_law 162 = .ok (.aload_n 0, 1) := by decide +kernel
theorem dL_law_163 : decode cL_law 163 = .ok (.iload 4, 2) := by decide +kernel
theorem dL_law_165 : decode cL_law 165 = .ok (.iconst 1, 1) := by decide +kernel
theorem dL_law_166 : decode cL_law 166 = .ok (.iadd, 1) := by decide +kernel
theorem dL_law_167 : decode cL_law 167 = .ok (.iaload, 1) := by decide +kernel
theorem dL_law_168 : decode cL_law 168 = .ok (.aload_n 0, 1) := by decide +kernel
theorem dL_law_169 : decode cL_law 169 = .ok (.iload 4, 2) := by decide +kernel
theorem dL_law_171 : decode cL_law 171 = .ok (.iconst 2, 1) := by decide +kernel
theorem dL_law_172 : decode cL_law 172 = .ok (.iadd, 1) := by decide +kernel
theorem dL_law_173 : decode cL_law 173 = .ok (.iaload, 1) := by decide +kernel
theorem dL_law_174 : decode cL_law 174 = .ok (.aload_n 0, 1) := by decide +kernel
theorem dL_law_175 : decode cL_law 175 = .ok (.iload 4, 2) := by decide +kernel
theorem dL_law_177 : decode cL_law 177 = .ok (.iconst 3, 1) := by decide +kernel
theorem dL_law_178 : decode cL_law 178 = .ok (.iadd, 1) := by decide +kernel
theorem dL_law_179 : decode cL_law 179 = .ok (.iaload, 1) := by decide +kernel
theorem dL_law_180 : decode cL_law 180 = .ok (.aload_n 0, 1) := by decide +kernel
theorem dL_law_181 : decode cL_law 181 = .ok (.iload 4, 2) := by decide +kernel
theorem dL_law_183 : decode cL_law 183 = .ok (.iconst 4, 1) := by decide +kernel
theorem dL_law_184 : decode cL_law 184 = .ok (.iadd, 1) := by decide +kernel
theorem dL_law_185 : decode cL_law 185 = .ok (.iaload, 1) := by decide +kernel
theorem dL_law_186 : decode cL_law 186 = .ok (.aload_n 0, 1) := by decide +kernel
theorem dL_law_187 : decode cL_law 187 = .ok (.iload 4, 2) := by decide +kernel
theorem dL_law_189 : decode cL_law 189 = .ok (.iconst 5, 1) := by decide +kernel
theorem dL_law_190 : decode cL_law 190 = .ok (.iadd, 1) := by decide +kernel
theorem dL_law_191 : decode cL_law 191 = .ok (.iaload, 1) := by decide +kernel
theorem dL_law_192 : decode cL_law 192 = .ok (.aload_n 0, 1) := by decide +kernel
theorem dL_law_193 : decode cL_law 193 = .ok (.iload 4, 2) := by decide +kernel
theorem dL_law_195 : decode cL_law 195 = .ok (.bipush 6, 2) := by decide +kernel
theorem dL_law_197 : decode cL_law 197 = .ok (.iadd, 1) := by decide +kernel
theorem dL_law_198 : decode cL_law 198 = .ok (.iaload, 1) := by decide +kernel
theorem dL_law_199 : decode cL_law 199 = .ok (.invokevirtual 23, 3) := by decide +kernel
theorem dL_law_202 : decode cL_law 202 = .ok (.if_icmp .eq 551, 3) := by decide +kernel
theorem dL_law_205 : decode cL_law 205 = .ok (.iconst 0, 1) := by decide +kernel
theorem dL_law_206 : decode cL_law 206 = .ok (.ireturn, 1) := by decide +kernel
theorem dL_law_207 : decode cL_law 207 = .ok (.aload_n 1, 1) := by decide +kernel
theorem dL_law_208 : decode cL_law 208 = .ok (.aload_n 0, 1) := by decide +kernel
theorem dL_law_209 : decode cL_law 209 = .ok (.iload 4, 2) := by decide +kernel
theorem dL_law_211 : decode cL_law 211 = .ok (.iconst 1, 1) := by decide +kernel
theorem dL_law_212 : decode cL_law 212 = .ok (.iadd, 1) := by decide +kernel
theorem dL_law_213 : decode cL_law 213 = .ok (.iaload, 1) := by decide +kernel
theorem dL_law_214 : decode cL_law 214 = .ok (.aload_n 0, 1) := by decide +kernel
theorem dL_law_215 : decode cL_law 215 = .ok (.iload 4, 2) := by decide +kernel
theorem dL_law_217 : decode cL_law 217 = .ok (.iconst 2, 1) := by decide +kernel
theorem dL_law_218 : decode cL_law 218 = .ok (.iadd, 1) := by decide +kernel
theorem dL_law_219 : decode cL_law 219 = .ok (.iaload, 1) := by decide +kernel
theorem dL_law_220 : decode cL_law 220 = .ok (.ifCond .eq 7, 3) := by decide +kernel
theorem dL_law_223 : decode cL_law 223 = .ok (.iconst 1, 1) := by decide +kernel
theorem dL_law_224 : decode cL_law 224 = .ok (.goto 4, 3) := by decide +kernel
theorem dL_law_227 : decode cL_law 227 = .ok (.iconst 0, 1) := by decide +kernel
theorem dL_law_228 : decode cL_law 228 = .ok (.invokevirtual 24, 3) := by decide +kernel
theorem dL_law_231 : decode cL_law 231 = .ok (.aload_n 2, 1) := by decide +kernel
theorem dL_law_232 : decode cL_law 232 = .ok (.aload_n 0, 1) := by decide +kernel
theorem dL_law_233 : decode cL_law 233 = .ok (.iload 4, 2) := by decide +kernel
theorem dL_law_235 : decode cL_law 235 = .ok (.iconst 1, 1) := by decide +kernel
theorem dL_law_236 : decode cL_law 236 = .ok (.iadd, 1) := by decide +kernel
theorem dL_law_237 : decode cL_law 237 = .ok (.iaload, 1) := by decide +kernel
theorem dL_law_238 : decode cL_law 238 = .ok (.aload_n 0, 1) := by decide +kernel
theorem dL_law_239 : decode cL_law 239 = .ok (.iload 4, 2) := by decide +kernel
theorem dL_law_241 : decode cL_law 241 = .ok (.iconst 2, 1) := by decide +kernel
theorem dL_law_242 : decode cL_law 242 = .ok (.iadd, 1) := by decide +kernel
theorem dL_law_243 : decode cL_law 243 = .ok (.iaload, 1) := by decide +kernel
theorem dL_law_244 : decode cL_law 244 = .ok (.ifCond .eq 7, 3) := by decide +kernel
theorem dL_law_247 : decode cL_law 247 = .ok (.iconst 1, 1) := by decide +kernel
theorem dL_law_248 : decode cL_law 248 = .ok (.goto 4, 3) := by decide +kernel
theorem dL_law_251 : decode cL_law 251 = .ok (.iconst 0, 1) := by decide +kernel
theorem dL_law_252 : decode cL_law 252 = .ok (.invokevirtual 28, 3) := by decide +kernel
theorem dL_law_255 : decode cL_law 255 = .ok (.if_icmp .eq 498, 3) := by decide +kernel
theorem dL_law_258 : decode cL_law 258 = .ok (.iconst 0, 1) := by decide +kernel
theorem dL_law_259 : decode cL_law 259 = .ok (.ireturn, 1) := by decide +kernel
theorem dL_law_260 : decode cL_law 260 = .ok (.aload_n 1, 1) := by decide +kernel
theorem dL_law_261 : decode cL_law 261 = .ok (.aload_n 0, 1) := by decide +kernel
theorem dL_law_262 : decode cL_law 262 = .ok (.iload 4, 2) := by decide +kernel
theorem dL_law_264 : decode cL_law 264 = .ok (.iconst 1, 1) := by decide +kernel
theorem dL_law_265 : decode cL_law 265 = .ok (.iadd, 1) := by decide +kernel
theorem dL_law_266 : decode cL_law 266 = .ok (.iaload, 1) := by decide +kernel
theorem dL_law_267 : decode cL_law 267 = .ok (.aload_n 0, 1) := by decide +kernel
theorem dL_law_268 : decode cL_law 268 = .ok (.iload 4, 2) := by decide +kernel
theorem dL_law_270 : decode cL_law 270 = .ok (.iconst 2, 1) := by decide +kernel
theorem dL_law_271 : decode cL_law 271 = .ok (.iadd, 1) := by decide +kernel
theorem dL_law_272 : decode cL_law 272 = .ok (.iaload, 1) := by decide +kernel
theorem dL_law_273 : decode cL_law 273 = .ok (.aload_n 0, 1) := by decide +kernel
theorem dL_law_274 : decode cL_law 274 = .ok (.iload 4, 2) := by decide +kernel
theorem dL_law_276 : decode cL_law 276 = .ok (.iconst 3, 1) := by decide +kernel
theorem dL_law_277 : decode cL_law 277 = .ok (.iadd, 1) := by decide +kernel
theorem dL_law_278 : decode cL_law 278 = .ok (.iaload, 1) := by decide +kernel
theorem dL_law_279 : decode cL_law 279 = .ok (.aload_n 0, 1) := by decide +kernel
theorem dL_law_280 : decode cL_law 280 = .ok (.iload 4, 2) := by decide +kernel
theorem dL_law_282 : decode cL_law 282 = .ok (.iconst 4, 1) := by decide +kernel
theorem dL_law_283 : decode cL_law 283 = .ok (.iadd, 1) := by decide +kernel
theorem dL_law_284 : decode cL_law 284 = .ok (.iaload, 1) := by decide +kernel
theorem dL_law_285 : decode cL_law 285 = .ok (.aload_n 0, 1) := by decide +kernel
theorem dL_law_286 : decode cL_law 286 = .ok (.iload 4, 2) := by decide +kernel
theorem dL_law_288 : decode cL_law 288 = .ok (.iconst 5, 1) := by decide +kernel
theorem dL_law_289 : decode cL_law 289 = .ok (.iadd, 1) := by decide +kernel
theorem dL_law_290 : decode cL_law 290 = .ok (.iaload, 1) := by decide +kernel
theorem dL_law_291 : decode cL_law 291 = .ok (.ifCond .eq 7, 3) := by decide +kernel
theorem dL_law_294 : decode cL_law 294 = .ok (.iconst 1, 1) := by decide +kernel
theorem dL_law_295 : decode cL_law 295 = .ok (.goto 4, 3) := by decide +kernel
theorem dL_law_298 : decode cL_law 298 = .ok (.iconst 0, 1) := by decide +kernel
theorem dL_law_299 : decode cL_law 299 = .ok (.invokevirtual 29, 3) := by decide +kernel
theorem dL_law_302 : decode cL_law 302 = .ok (.aload_n 2, 1) := by decide +kernel
theorem dL_law_303 : decode cL_law 303 = .ok (.aload_n 0, 1) := by decide +kernel
theorem dL_law_304 : decode cL_law 304 = .ok (.iload 4, 2) := by decide +kernel
theorem dL_law_306 : decode cL_law 306 = .ok (.iconst 1, 1) := by decide +kernel
theorem dL_law_307 : decode cL_law 307 = .ok (.iadd, 1) := by decide +kernel
theorem dL_law_308 : decode cL_law 308 = .ok (.iaload, 1) := by decide +kernel
theorem dL_law_309 : decode cL_law 309 = .ok (.aload_n 0, 1) := by decide +kernel
theorem dL_law_310 : decode cL_law 310 = .ok (.iload 4, 2) := by decide +kernel
theorem dL_law_312 : decode cL_law 312 = .ok (.iconst 2, 1) := by decide +kernel
theorem dL_law_313 : decode cL_law 313 = .ok (.iadd, 1) := by decide +kernel
theorem dL_law_314 : decode cL_law 314 = .ok (.iaload, 1) := by decide +kernel
theorem dL_law_315 : decode cL_law 315 = .ok (.aload_n 0, 1) := by decide +kernel
theorem dL_law_316 : decode cL_law 316 = .ok (.iload 4, 2) := by decide +kernel
theorem dL_law_318 : decode cL_law 318 = .ok (.iconst 3, 1) := by decide +kernel
theorem dL_law_319 : decode cL_law 319 = .ok (.iadd, 1) := by decide +kernel
theorem dL_law_320 : decode cL_law 320 = .ok (.iaload, 1) := by decide +kernel
theorem dL_law_321 : decode cL_law 321 = .ok (.aload_n 0, 1) := by decide +kernel
theorem dL_law_322 : decode cL_law 322 = .ok (.iload 4, 2) := by decide +kernel
theorem dL_law_324 : decode cL_law 324 = .ok (.iconst 4, 1) := by decide +kernel
theorem dL_law_325 : decode cL_law 325 = .ok (.iadd, 1) := by decide +kernel
theorem dL_law_326 : decode cL_law 326 = .ok (.iaload, 1) := by decide +kernel
theorem dL_law_327 : decode cL_law 327 = .ok (.aload_n 0, 1) := by decide +kernel
theorem dL_law_328 : decode cL_law 328 = .ok (.iload 4, 2) := by decide +kernel
theorem dL_law_330 : decode cL_law 330 = .ok (.iconst 5, 1) := by decide +kernel
theorem dL_law_331 : decode cL_law 331 = .ok (.iadd, 1) := by decide +kernel
theorem dL_law_332 : decode cL_law 332 = .ok (.iaload, 1) := by decide +kernel
theorem dL_law_333 : decode cL_law 333 = .ok (.ifCond .eq 7, 3) := by decide +kernel
theorem dL_law_336 : decode cL_law 336 = .ok (.iconst 1, 1) := by decide +kernel
theorem dL_law_337 : decode cL_law 337 = .ok (.goto 4, 3) := by decide +kernel
theorem dL_law_340 : decode cL_law 340 = .ok (.iconst 0, 1) := by decide +kernel
theorem dL_law_341 : decode cL_law 341 = .ok (.invokevirtual 33, 3) := by decide +kernel
theorem dL_law_344 : decode cL_law 344 = .ok (.if_icmp .eq 409, 3) := by decide +kernel
theorem dL_law_347 : decode cL_law 347 = .ok (.iconst 0, 1) := by decide +kernel
theorem dL_law_348 : decode cL_law 348 = .ok (.ireturn, 1) := by decide +kernel
theorem dL_law_349 : decode cL_law 349 = .ok (.aload_n 1, 1) := by decide +kernel
theorem dL_law_350 : decode cL_law 350 = .ok (.aload_n 0, 1) := by decide +kernel
theorem dL_law_351 : decode cL_law 351 = .ok (.iload 4, 2) := by decide +kernel
theorem dL_law_353 : decode cL_law 353 = .ok (.iconst 1, 1) := by decide +kernel
theorem dL_law_354 : decode cL_law 354 = .ok (.iadd, 1) := by decide +kernel
theorem dL_law_355 : decode cL_law 355 = .ok (.iaload, 1) := by decide +kernel
theorem dL_law_356 : decode cL_law 356 = .ok (.aload_n 0, 1) := by decide +kernel
theorem dL_law_357 : decode cL_law 357 = .ok (.iload 4, 2) := by decide +kernel
theorem dL_law_359 : decode cL_law 359 = .ok (.iconst 2, 1) := by decide +kernel
theorem dL_law_360 : decode cL_law 360 = .ok (.iadd, 1) := by decide +kernel
theorem dL_law_361 : decode cL_law 361 = .ok (.iaload, 1) := by decide +kernel
theorem dL_law_362 : decode cL_law 362 = .ok (.invokevirtual 34, 3) := by decide +kernel
theorem dL_law_365 : decode cL_law 365 = .ok (.aload_n 2, 1) := by decide +kernel
theorem dL_law_366 : decode cL_law 366 = .ok (.aload_n 0, 1) := by decide +kernel
theorem dL_law_367 : decode cL_law 367 = .ok (.iload 4, 2) := by decide +kernel
theorem dL_law_369 : decode cL_law 369 = .ok (.iconst 1, 1) := by decide +kernel
theorem dL_law_370 : decode cL_law 370 = .ok (.iadd, 1) := by decide +kernel
theorem dL_law_371 : decode cL_law 371 = .ok (.iaload, 1) := by decide +kernel
theorem dL_law_372 : decode cL_law 372 = .ok (.aload_n 0, 1) := by decide +kernel
theorem dL_law_373 : decode cL_law 373 = .ok (.iload 4, 2) := by decide +kernel
theorem dL_law_375 : decode cL_law 375 = .ok (.iconst 2, 1) := by decide +kernel
theorem dL_law_376 : decode cL_law 376 = .ok (.iadd, 1) := by decide +kernel
theorem dL_law_377 : decode cL_law 377 = .ok (.iaload, 1) := by decide +kernel
theorem dL_law_378 : decode cL_law 378 = .ok (.invokevirtual 37, 3) := by decide +kernel
theorem dL_law_381 : decode cL_law 381 = .ok (.if_icmp .eq 372, 3) := by decide +kernel
theorem dL_law_384 : decode cL_law 384 = .ok (.iconst 0, 1) := by decide +kernel
theorem dL_law_385 : decode cL_law 385 = .ok (.ireturn, 1) := by decide +kernel
theorem dL_law_386 : decode cL_law 386 = .ok (.aload_n 1, 1) := by decide +kernel
theorem dL_law_387 : decode cL_law 387 = .ok (.aload_n 0, 1) := by decide +kernel
theorem dL_law_388 : decode cL_law 388 = .ok (.iload 4, 2) := by decide +kernel
theorem dL_law_390 : decode cL_law 390 = .ok (.iconst 1, 1) := by decide +kernel
theorem dL_law_391 : decode cL_law 391 = .ok (.iadd, 1) := by decide +kernel
theorem dL_law_392 : decode cL_law 392 = .ok (.iaload, 1) := by decide +kernel
theorem dL_law_393 : decode cL_law 393 = .ok (.aload_n 0, 1) := by decide +kernel
theorem dL_law_394 : decode cL_law 394 = .ok (.iload 4, 2) := by decide +kernel
theorem dL_law_396 : decode cL_law 396 = .ok (.iconst 2, 1) := by decide +kernel
theorem dL_law_397 : decode cL_law 397 = .ok (.iadd, 1) := by decide +kernel
theorem dL_law_398 : decode cL_law 398 = .ok (.iaload, 1) := by decide +kernel
theorem dL_law_399 : decode cL_law 399 = .ok (.invokevirtual 38, 3) := by decide +kernel
theorem dL_law_402 : decode cL_law 402 = .ok (.aload_n 2, 1) := by decide +kernel
theorem dL_law_403 : decode cL_law 403 = .ok (.aload_n 0, 1) := by decide +kernel
theorem dL_law_404 : decode cL_law 404 = .ok (.iload 4, 2) := by decide +kernel
theorem dL_law_406 : decode cL_law 406 = .ok (.iconst 1, 1) := by decide +kernel
theorem dL_law_407 : decode cL_law 407 = .ok (.iadd, 1) := by decide +kernel
theorem dL_law_408 : decode cL_law 408 = .ok (.iaload, 1) := by decide +kernel
theorem dL_law_409 : decode cL_law 409 = .ok (.aload_n 0, 1) := by decide +kernel
theorem dL_law_410 : decode cL_law 410 = .ok (.iload 4, 2) := by decide +kernel
theorem dL_law_412 : decode cL_law 412 = .ok (.iconst 2, 1) := by decide +kernel
theorem dL_law_413 : decode cL_law 413 = .ok (.iadd, 1) := by decide +kernel
theorem dL_law_414 : decode cL_law 414 = .ok (.iaload, 1) := by decide +kernel
theorem dL_law_415 : decode cL_law 415 = .ok (.invokevirtual 41, 3) := by decide +kernel
theorem dL_law_418 : decode cL_law 418 = .ok (.if_icmp .eq 335, 3) := by decide +kernel
theorem dL_law_421 : decode cL_law 421 = .ok (.iconst 0, 1) := by decide +kernel
theorem dL_law_422 : decode cL_law 422 = .ok (.ireturn, 1) := by decide +kernel
theorem dL_law_423 : decode cL_law 423 = .ok (.aload_n 1, 1) := by decide +kernel
theorem dL_law_424 : decode cL_law 424 = .ok (.aload_n 0, 1) := by decide +kernel
theorem dL_law_425 : decode cL_law 425 = .ok (.iload 4, 2) := by decide +kernel
theorem dL_law_427 : decode cL_law 427 = .ok (.iconst 1, 1) := by decide +kernel
theorem dL_law_428 : decode cL_law 428 = .ok (.iadd, 1) := by decide +kernel
theorem dL_law_429 : decode cL_law 429 = .ok (.iaload, 1) := by decide +kernel
theorem dL_law_430 : decode cL_law 430 = .ok (.aload_n 0, 1) := by decide +kernel
theorem dL_law_431 : decode cL_law 431 = .ok (.iload 4, 2) := by decide +kernel
theorem dL_law_433 : decode cL_law 433 = .ok (.iconst 2, 1) := by decide +kernel
theorem dL_law_434 : decode cL_law 434 = .ok (.iadd, 1) := by decide +kernel
theorem dL_law_435 : decode cL_law 435 = .ok (.iaload, 1) := by decide +kernel
theorem dL_law_436 : decode cL_law 436 = .ok (.aload_n 3, 1) := by decide +kernel
theorem dL_law_437 : decode cL_law 437 = .ok (.invokestatic 42, 3) := by decide +kernel
theorem dL_law_440 : decode cL_law 440 = .ok (.istore 5, 2) := by decide +kernel
theorem dL_law_442 : decode cL_law 442 = .ok (.aload_n 2, 1) := by decide +kernel
theorem dL_law_443 : decode cL_law 443 = .ok (.aload_n 0, 1) := by decide +kernel
theorem dL_law_444 : decode cL_law 444 = .ok (.iload 4, 2) := by decide +kernel
theorem dL_law_446 : decode cL_law 446 = .ok (.iconst 1, 1) := by decide +kernel
theorem dL_law_447 : decode cL_law 447 = .ok (.iadd, 1) := by decide +kernel
theorem dL_law_448 : decode cL_law 448 = .ok (.iaload, 1) := by decide +kernel
theorem dL_law_449 : decode cL_law 449 = .ok (.aload_n 0, 1) := by decide +kernel
theorem dL_law_450 : decode cL_law 450 = .ok (.iload 4, 2) := by decide +kernel
theorem dL_law_452 : decode cL_law 452 = .ok (.iconst 2, 1) := by decide +kernel
theorem dL_law_453 : decode cL_law 453 = .ok (.iadd, 1) := by decide +kernel
theorem dL_law_454 : decode cL_law 454 = .ok (.iaload, 1) := by decide +kernel
theorem dL_law_455 : decode cL_law 455 = .ok (.invokevirtual 47, 3) := by decide +kernel
theorem dL_law_458 : decode cL_law 458 = .ok (.istore 6, 2) := by decide +kernel
theorem dL_law_460 : decode cL_law 460 = .ok (.aload_n 2, 1) := by decide +kernel
theorem dL_law_461 : decode cL_law 461 = .ok (.invokevirtual 48, 3) := by decide +kernel
theorem dL_law_464 : decode cL_law 464 = .ok (.iload 5, 2) := by decide +kernel
theorem dL_law_466 : decode cL_law 466 = .ok (.if_icmp .eq 5, 3) := by decide +kernel
theorem dL_law_469 : decode cL_law 469 = .ok (.iconst 0, 1) := by decide +kernel
theorem dL_law_470 : decode cL_law 470 = .ok (.ireturn, 1) := by decide +kernel
theorem dL_law_471 : decode cL_law 471 = .ok (.iload 5, 2) := by decide +kernel
theorem dL_law_473 : decode cL_law 473 = .ok (.ifCond .ne 15, 3) := by decide +kernel
theorem dL_law_476 : decode cL_law 476 = .ok (.aload_n 3, 1) := by decide +kernel
theorem dL_law_477 : decode cL_law 477 = .ok (.iconst 0, 1) := by decide +kernel
theorem dL_law_478 : decode cL_law 478 = .ok (.laload, 1) := by decide +kernel
theorem dL_law_479 : decode cL_law 479 = .ok (.iload 6, 2) := by decide +kernel
theorem dL_law_481 : decode cL_law 481 = .ok (.i2l, 1) := by decide +kernel
theorem dL_law_482 : decode cL_law 482 = .ok (.lcmp, 1) := by decide +kernel
theorem dL_law_483 : decode cL_law 483 = .ok (.ifCond .eq 5, 3) := by decide +kernel
theorem dL_law_486 : decode cL_law 486 = .ok (.iconst 0, 1) := by decide +kernel
theorem dL_law_487 : decode cL_law 487 = .ok (.ireturn, 1) := by decide +kernel
theorem dL_law_488 : decode cL_law 488 = .ok (.goto 265, 3) := by decide +kernel
theorem dL_law_491 : decode cL_law 491 = .ok (.aload_n 1, 1) := by decide +kernel
theorem dL_law_492 : decode cL_law 492 = .ok (.aload_n 0, 1) := by decide +kernel
theorem dL_law_493 : decode cL_law 493 = .ok (.iload 4, 2) := by decide +kernel
theorem dL_law_495 : decode cL_law 495 = .ok (.iconst 1, 1) := by decide +kernel
theorem dL_law_496 : decode cL_law 496 = .ok (.iadd, 1) := by decide +kernel
theorem dL_law_497 : decode cL_law 497 = .ok (.iaload, 1) := by decide +kernel
theorem dL_law_498 : decode cL_law 498 = .ok (.invokevirtual 52, 3) := by decide +kernel
theorem dL_law_501 : decode cL_law 501 = .ok (.aload_n 2, 1) := by decide +kernel
theorem dL_law_502 : decode cL_law 502 = .ok (.aload_n 0, 1) := by decide +kernel
theorem dL_law_503 : decode cL_law 503 = .ok (.iload 4, 2) := by decide +kernel
theorem dL_law_505 : decode cL_law 505 = .ok (.iconst 1, 1) := by decide +kernel
theorem dL_law_506 : decode cL_law 506 = .ok (.iadd, 1) := by decide +kernel
theorem dL_law_507 : decode cL_law 507 = .ok (.iaload, 1) := by decide +kernel
theorem dL_law_508 : decode cL_law 508 = .ok (.invokevirtual 56, 3) := by decide +kernel
theorem dL_law_511 : decode cL_law 511 = .ok (.if_icmp .eq 242, 3) := by decide +kernel
theorem dL_law_514 : decode cL_law 514 = .ok (.iconst 0, 1) := by decide +kernel
theorem dL_law_515 : decode cL_law 515 = .ok (.ireturn, 1) := by decide +kernel
theorem dL_law_516 : decode cL_law 516 = .ok (.aload_n 1, 1) := by decide +kernel
theorem dL_law_517 : decode cL_law 517 = .ok (.aload_n 0, 1) := by decide +kernel
theorem dL_law_518 : decode cL_law 518 = .ok (.iload 4, 2) := by decide +kernel
theorem dL_law_520 : decode cL_law 520 = .ok (.iconst 1, 1) := by decide +kernel
theorem dL_law_521 : decode cL_law 521 = .ok (.iadd, 1) := by decide +kernel
theorem dL_law_522 : decode cL_law 522 = .ok (.iaload, 1) := by decide +kernel
theorem dL_law_523 : decode cL_law 523 = .ok (.invokevirtual 57, 3) := by decide +kernel
theorem dL_law_526 : decode cL_law 526 = .ok (.aload_n 2, 1) := by decide +kernel
theorem dL_law_527 : decode cL_law 527 = .ok (.aload_n 0, 1) := by decide +kernel
theorem dL_law_528 : decode cL_law 528 = .ok (.iload 4, 2) := by decide +kernel
theorem dL_law_530 : decode cL_law 530 = .ok (.iconst 1, 1) := by decide +kernel
theorem dL_law_531 : decode cL_law 531 = .ok (.iadd, 1) := by decide +kernel
theorem dL_law_532 : decode cL_law 532 = .ok (.iaload, 1) := by decide +kernel
theorem dL_law_533 : decode cL_law 533 = .ok (.invokevirtual 60, 3) := by decide +kernel
theorem dL_law_536 : decode cL_law 536 = .ok (.if_icmp .eq 217, 3) := by decide +kernel
theorem dL_law_539 : decode cL_law 539 = .ok (.iconst 0, 1) := by decide +kernel
theorem dL_law_540 : decode cL_law 540 = .ok (.ireturn, 1) := by decide +kernel
theorem dL_law_541 : decode cL_law 541 = .ok (.aload_n 1, 1) := by decide +kernel
theorem dL_law_542 : decode cL_law 542 = .ok (.aload_n 0, 1) := by decide +kernel
theorem dL_law_543 : decode cL_law 543 = .ok (.iload 4, 2) := by decide +kernel
theorem dL_law_545 : decode cL_law 545 = .ok (.iconst 1, 1) := by decide +kernel
theorem dL_law_546 : decode cL_law 546 = .ok (.iadd, 1) := by decide +kernel
theorem dL_law_547 : decode cL_law 547 = .ok (.iaload, 1) := by decide +kernel
theorem dL_law_548 : decode cL_law 548 = .ok (.invokevirtual 61, 3) := by decide +kernel
theorem dL_law_551 : decode cL_law 551 = .ok (.aload_n 2, 1) := by decide +kernel
theorem dL_law_552 : decode cL_law 552 = .ok (.aload_n 0, 1) := by decide +kernel
theorem dL_law_553 : decode cL_law 553 = .ok (.iload 4, 2) := by decide +kernel
theorem dL_law_555 : decode cL_law 555 = .ok (.iconst 1, 1) := by decide +kernel
theorem dL_law_556 : decode cL_law 556 = .ok (.iadd, 1) := by decide +kernel
theorem dL_law_557 : decode cL_law 557 = .ok (.iaload, 1) := by decide +kernel
theorem dL_law_558 : decode cL_law 558 = .ok (.invokevirtual 64, 3) := by decide +kernel
theorem dL_law_561 : decode cL_law 561 = .ok (.if_icmp .eq 192, 3) := by decide +kernel
theorem dL_law_564 : decode cL_law 564 = .ok (.iconst 0, 1) := by decide +kernel
theorem dL_law_565 : decode cL_law 565 = .ok (.ireturn, 1) := by decide +kernel
theorem dL_law_566 : decode cL_law 566 = .ok (.aload_n 1, 1) := by decide +kernel
theorem dL_law_567 : decode cL_law 567 = .ok (.aload_n 0, 1) := by decide +kernel
theorem dL_law_568 : decode cL_law 568 = .ok (.iload 4, 2) := by decide +kernel
theorem dL_law_570 : decode cL_law 570 = .ok (.iconst 1, 1) := by decide +kernel
theorem dL_law_571 : decode cL_law 571 = .ok (.iadd, 1) := by decide +kernel
theorem dL_law_572 : decode cL_law 572 = .ok (.iaload, 1) := by decide +kernel
theorem dL_law_573 : decode cL_law 573 = .ok (.aload_n 0, 1) := by decide +kernel
theorem dL_law_574 : decode cL_law 574 = .ok (.iload 4, 2) := by decide +kernel
theorem dL_law_576 : decode cL_law 576 = .ok (.iconst 2, 1) := by decide +kernel
theorem dL_law_577 : decode cL_law 577 = .ok (.iadd, 1) := by decide +kernel
theorem dL_law_578 : decode cL_law 578 = .ok (.iaload, 1) := by decide +kernel
theorem dL_law_579 : decode cL_law 579 = .ok (.aload_n 0, 1) := by decide +kernel
theorem dL_law_580 : decode cL_law 580 = .ok (.iload 4, 2) := by decide +kernel
theorem dL_law_582 : decode cL_law 582 = .ok (.iconst 3, 1) := by decide +kernel
theorem dL_law_583 : decode cL_law 583 = .ok (.iadd, 1) := by decide +kernel
theorem dL_law_584 : decode cL_law 584 = .ok (.iaload, 1) := by decide +kernel
theorem dL_law_585 : decode cL_law 585 = .ok (.invokevirtual 65, 3) := by decide +kernel
theorem dL_law_588 : decode cL_law 588 = .ok (.aload_n 2, 1) := by decide +kernel
theorem dL_law_589 : decode cL_law 589 = .ok (.aload_n 0, 1) := by decide +kernel
theorem dL_law_590 : decode cL_law 590 = .ok (.iload 4, 2) := by decide +kernel
theorem dL_law_592 : decode cL_law 592 = .ok (.iconst 1, 1) := by decide +kernel
theorem dL_law_593 : decode cL_law 593 = .ok (.iadd, 1) := by decide +kernel
theorem dL_law_594 : decode cL_law 594 = .ok (.iaload, 1) := by decide +kernel
theorem dL_law_595 : decode cL_law 595 = .ok (.aload_n 0, 1) := by decide +kernel
theorem dL_law_596 : decode cL_law 596 = .ok (.iload 4, 2) := by decide +kernel
theorem dL_law_598 : decode cL_law 598 = .ok (.iconst 2, 1) := by decide +kernel
theorem dL_law_599 : decode cL_law 599 = .ok (.iadd, 1) := by decide +kernel
theorem dL_law_600 : decode cL_law 600 = .ok (.iaload, 1) := by decide +kernel
theorem dL_law_601 : decode cL_law 601 = .ok (.aload_n 0, 1) := by decide +kernel
theorem dL_law_602 : decode cL_law 602 = .ok (.iload 4, 2) := by decide +kernel
theorem dL_law_604 : decode cL_law 604 = .ok (.iconst 3, 1) := by decide +kernel
theorem dL_law_605 : decode cL_law 605 = .ok (.iadd, 1) := by decide +kernel
theorem dL_law_606 : decode cL_law 606 = .ok (.iaload, 1) := by decide +kernel
theorem dL_law_607 : decode cL_law 607 = .ok (.invokevirtual 69, 3) := by decide +kernel
theorem dL_law_610 : decode cL_law 610 = .ok (.if_icmp .eq 143, 3) := by decide +kernel
theorem dL_law_613 : decode cL_law 613 = .ok (.iconst 0, 1) := by decide +kernel
theorem dL_law_614 : decode cL_law 614 = .ok (.ireturn, 1) := by decide +kernel
theorem dL_law_615 : decode cL_law 615 = .ok (.aload_n 1, 1) := by decide +kernel
theorem dL_law_616 : decode cL_law 616 = .ok (.aload_n 0, 1) := by decide +kernel
theorem dL_law_617 : decode cL_law 617 = .ok (.iload 4, 2) := by decide +kernel
theorem dL_law_619 : decode cL_law 619 = .ok (.iconst 1, 1) := by decide +kernel
theorem dL_law_620 : decode cL_law 620 = .ok (.iadd, 1) := by decide +kernel
theorem dL_law_621 : decode cL_law 621 = .ok (.iaload, 1) := by decide +kernel
theorem dL_law_622 : decode cL_law 622 = .ok (.invokevirtual 70, 3) := by decide +kernel
theorem dL_law_625 : decode cL_law 625 = .ok (.aload_n 2, 1) := by decide +kernel
theorem dL_law_626 : decode cL_law 626 = .ok (.aload_n 0, 1) := by decide +kernel
theorem dL_law_627 : decode cL_law 627 = .ok (.iload 4, 2) := by decide +kernel
theorem dL_law_629 : decode cL_law 629 = .ok (.iconst 1, 1) := by decide +kernel
theorem dL_law_630 : decode cL_law 630 = .ok (.iadd, 1) := by decide +kernel
theorem dL_law_631 : decode cL_law 631 = .ok (.iaload, 1) := by decide +kernel
theorem dL_law_632 : decode cL_law 632 = .ok (.invokevirtual 73, 3) := by decide +kernel
theorem dL_law_635 : decode cL_law 635 = .ok (.if_icmp .eq 118, 3) := by decide +kernel
theorem dL_law_638 : decode cL_law 638 = .ok (.iconst 0, 1) := by decide +kernel
theorem dL_law_639 : decode cL_law 639 = .ok (.ireturn, 1) := by decide +kernel
theorem dL_law_640 : decode cL_law 640 = .ok (.aload_n 1, 1) := by decide +kernel
theorem dL_law_641 : decode cL_law 641 = .ok (.aload_n 0, 1) := by decide +kernel
theorem dL_law_642 : decode cL_law 642 = .ok (.iload 4, 2) := by decide +kernel
theorem dL_law_644 : decode cL_law 644 = .ok (.iconst 1, 1) := by decide +kernel
theorem dL_law_645 : decode cL_law 645 = .ok (.iadd, 1) := by decide +kernel
theorem dL_law_646 : decode cL_law 646 = .ok (.iaload, 1) := by decide +kernel
theorem dL_law_647 : decode cL_law 647 = .ok (.invokevirtual 74, 3) := by decide +kernel
theorem dL_law_650 : decode cL_law 650 = .ok (.aload_n 2, 1) := by decide +kernel
theorem dL_law_651 : decode cL_law 651 = .ok (.aload_n 0, 1) := by decide +kernel
theorem dL_law_652 : decode cL_law 652 = .ok (.iload 4, 2) := by decide +kernel
theorem dL_law_654 : decode cL_law 654 = .ok (.iconst 1, 1) := by decide +kernel
theorem dL_law_655 : decode cL_law 655 = .ok (.iadd, 1) := by decide +kernel
theorem dL_law_656 : decode cL_law 656 = .ok (.iaload, 1) := by decide +kernel
theorem dL_law_657 : decode cL_law 657 = .ok (.invokevirtual 78, 3) := by decide +kernel
theorem dL_law_660 : decode cL_law 660 = .ok (.if_icmp .eq 93, 3) := by decide +kernel
theorem dL_law_663 : decode cL_law 663 = .ok (.iconst 0, 1) := by decide +kernel
theorem dL_law_664 : decode cL_law 664 = .ok (.ireturn, 1) := by decide +kernel
theorem dL_law_665 : decode cL_law 665 = .ok (.aload_n 1, 1) := by decide +kernel
theorem dL_law_666 : decode cL_law 666 = .ok (.aload_n 0, 1) := by decide +kernel
theorem dL_law_667 : decode cL_law 667 = .ok (.iload 4, 2) := by decide +kernel
theorem dL_law_669 : decode cL_law 669 = .ok (.iconst 1, 1) := by decide +kernel
theorem dL_law_670 : decode cL_law 670 = .ok (.iadd, 1) := by decide +kernel
theorem dL_law_671 : decode cL_law 671 = .ok (.iaload, 1) := by decide +kernel
theorem dL_law_672 : decode cL_law 672 = .ok (.aload_n 0, 1) := by decide +kernel
theorem dL_law_673 : decode cL_law 673 = .ok (.iload 4, 2) := by decide +kernel
theorem dL_law_675 : decode cL_law 675 = .ok (.iconst 2, 1) := by decide +kernel
theorem dL_law_676 : decode cL_law 676 = .ok (.iadd, 1) := by decide +kernel
theorem dL_law_677 : decode cL_law 677 = .ok (.iaload, 1) := by decide +kernel
theorem dL_law_678 : decode cL_law 678 = .ok (.aload_n 0, 1) := by decide +kernel
theorem dL_law_679 : decode cL_law 679 = .ok (.iload 4, 2) := by decide +kernel
theorem dL_law_681 : decode cL_law 681 = .ok (.iconst 3, 1) := by decide +kernel
theorem dL_law_682 : decode cL_law 682 = .ok (.iadd, 1) := by decide +kernel
theorem dL_law_683 : decode cL_law 683 = .ok (.iaload, 1) := by decide +kernel
theorem dL_law_684 : decode cL_law 684 = .ok (.invokevirtual 79, 3) := by decide +kernel
theorem dL_law_687 : decode cL_law 687 = .ok (.aload_n 2, 1) := by decide +kernel
theorem dL_law_688 : decode cL_law 688 = .ok (.aload_n 0, 1) := by decide +kernel
theorem dL_law_689 : decode cL_law 689 = .ok (.iload 4, 2) := by decide +kernel
theorem dL_law_691 : decode cL_law 691 = .ok (.iconst 1, 1) := by decide +kernel
theorem dL_law_692 : decode cL_law 692 = .ok (.iadd, 1) := by decide +kernel
theorem dL_law_693 : decode cL_law 693 = .ok (.iaload, 1) := by decide +kernel
theorem dL_law_694 : decode cL_law 694 = .ok (.aload_n 0, 1) := by decide +kernel
theorem dL_law_695 : decode cL_law 695 = .ok (.iload 4, 2) := by decide +kernel
theorem dL_law_697 : decode cL_law 697 = .ok (.iconst 2, 1) := by decide +kernel
theorem dL_law_698 : decode cL_law 698 = .ok (.iadd, 1) := by decide +kernel
theorem dL_law_699 : decode cL_law 699 = .ok (.iaload, 1) := by decide +kernel
theorem dL_law_700 : decode cL_law 700 = .ok (.aload_n 0, 1) := by decide +kernel
theorem dL_law_701 : decode cL_law 701 = .ok (.iload 4, 2) := by decide +kernel
theorem dL_law_703 : decode cL_law 703 = .ok (.iconst 3, 1) := by decide +kernel
theorem dL_law_704 : decode cL_law 704 = .ok (.iadd, 1) := by decide +kernel
theorem dL_law_705 : decode cL_law 705 = .ok (.iaload, 1) := by decide +kernel
theorem dL_law_706 : decode cL_law 706 = .ok (.invokevirtual 82, 3) := by decide +kernel
theorem dL_law_709 : decode cL_law 709 = .ok (.if_icmp .eq 44, 3) := by decide +kernel
theorem dL_law_712 : decode cL_law 712 = .ok (.iconst 0, 1) := by decide +kernel
theorem dL_law_713 : decode cL_law 713 = .ok (.ireturn, 1) := by decide +kernel
theorem dL_law_714 : decode cL_law 714 = .ok (.aload_n 1, 1) := by decide +kernel
theorem dL_law_715 : decode cL_law 715 = .ok (.invokevirtual 83, 3) := by decide +kernel
theorem dL_law_718 : decode cL_law 718 = .ok (.aload_n 2, 1) := by decide +kernel
theorem dL_law_719 : decode cL_law 719 = .ok (.invokevirtual 86, 3) := by decide +kernel
theorem dL_law_722 : decode cL_law 722 = .ok (.if_icmp .eq 31, 3) := by decide +kernel
theorem dL_law_725 : decode cL_law 725 = .ok (.iconst 0, 1) := by decide +kernel
theorem dL_law_726 : decode cL_law 726 = .ok (.ireturn, 1) := by decide +kernel
theorem dL_law_727 : decode cL_law 727 = .ok (.aload_n 1, 1) := by decide +kernel
theorem dL_law_728 : decode cL_law 728 = .ok (.invokevirtual 87, 3) := by decide +kernel
theorem dL_law_731 : decode cL_law 731 = .ok (.aload_n 2, 1) := by decide +kernel
theorem dL_law_732 : decode cL_law 732 = .ok (.invokevirtual 90, 3) := by decide +kernel
theorem dL_law_735 : decode cL_law 735 = .ok (.if_icmp .eq 18, 3) := by decide +kernel
theorem dL_law_738 : decode cL_law 738 = .ok (.iconst 0, 1) := by decide +kernel
theorem dL_law_739 : decode cL_law 739 = .ok (.ireturn, 1) := by decide +kernel
theorem dL_law_740 : decode cL_law 740 = .ok (.aload_n 1, 1) := by decide +kernel
theorem dL_law_741 : decode cL_law 741 = .ok (.invokevirtual 91, 3) := by decide +kernel
theorem dL_law_744 : decode cL_law 744 = .ok (.aload_n 2, 1) := by decide +kernel
theorem dL_law_745 : decode cL_law 745 = .ok (.invokevirtual 94, 3) := by decide +kernel
theorem dL_law_748 : decode cL_law 748 = .ok (.if_icmp .eq 5, 3) := by decide +kernel
theorem dL_law_751 : decode cL_law 751 = .ok (.iconst 0, 1) := by decide +kernel
theorem dL_law_752 : decode cL_law 752 = .ok (.ireturn, 1) := by decide +kernel
theorem dL_law_753 : decode cL_law 753 = .ok (.iinc 4 7, 3) := by decide +kernel
theorem dL_law_756 : decode cL_law 756 = .ok (.goto (-733), 3) := by decide +kernel
theorem dL_law_759 : decode cL_law 759 = .ok (.iconst 1, 1) := by decide +kernel
theorem dL_law_760 : decode cL_law 760 = .ok (.ireturn, 1) := by decide +kernel
end
section
/-! small facts; the words of the specification: fl (flights, 7 a flight), pa (parties, 9 a party), nu (numbers), nF, nP -/
theorem nar_bI (c : Bool) : narrow .boolean (.int (bI c)) = .int (bI c) := by cases c <;> rfl
theorem bI_t : bI true = 1 := rfl
theorem bI_f : bI false = 0 := rfl
theorem i_lt (a b : Int32) : a < b ↔ a.toInt < b.toInt := Int32.lt_iff_toInt_lt
theorem i_le (a b : Int32) : a ≤ b ↔ a.toInt ≤ b.toInt := Int32.le_iff_toInt_le
theorem i_eq (a b : Int32) : a = b ↔ a.toInt = b.toInt := Int32.toInt_inj.symm
theorem i_0 : (0 : Int32).toInt = 0 := rfl
def inR (v x y : Int32) : Bool := decide (x ≤ v) && decide (v ≤ y)
theorem in_f1 {v x y : Int32} (h : v < x) : inR v x y = false := by
  unfold inR
  rw [decide_eq_false (by rw [i_le]; rw [i_lt] at h; omega)]
  rfl
theorem in_f2 {v x y : Int32} (h : y < v) : inR v x y = false := by
  unfold inR
  rw [decide_eq_false (p := v ≤ y) (by rw [i_le]; rw [i_lt] at h; omega), Bool.and_false]
theorem in_t {v x y : Int32} (h : ¬ v < x) (h2 : ¬ y < v) : inR v x y = true := by
  unfold inR
  rw [decide_eq_true (by rw [i_le]; rw [i_lt] at h; omega), decide_eq_true (p := v ≤ y) (by rw [i_le]; rw [i_lt] at h2; omega)]
  rfl
theorem inR_t {v x y : Int32} (h : inR v x y = true) : x ≤ v ∧ v ≤ y := by
  unfold inR at h
  simpa using h
theorem inR_f {v x y : Int32} (h : inR v x y = false) : ¬ (x ≤ v ∧ v ≤ y) := by
  unfold inR at h
  simpa using h
/-- a number of 0 .. n - 1 -/
def fok (n : Nat) (v : Int32) : Bool := inR v 0 (nI n - 1)
theorem nm1 {n : Nat} (h : n < 2 ^ 30) : (nI n - 1).toInt = (n : Int) - 1 := by
  have h1 := pk_sub_toInt (a := n) (b := 1) h (by decide)
  exact h1
theorem fok_t {n : Nat} {v : Int32} (h : fok n v = true) (hn : n < 2 ^ 30) : ∃ i, i < n ∧ v = nI i := by
  obtain ⟨h1, h2⟩ := inR_t h
  rw [i_le, i_0] at h1
  rw [i_le, nm1 hn] at h2
  obtain ⟨j, hj, rfl⟩ := nI_of (x := v) (by rw [i_lt, i_0]; omega)
  rw [nI_toInt hj] at h2
  exact ⟨j, by omega, rfl⟩
theorem fok_i {n i : Nat} (h : i < n) (hn : n < 2 ^ 30) : fok n (nI i) = true := by
  refine in_t ?_ ?_
  · rw [i_lt, i_0, nI_toInt (by omega)]
    omega
  · rw [i_lt, nm1 hn, nI_toInt (by omega)]
    omega
theorem fok_f {n : Nat} {v : Int32} (h : fok n v = false) (hn : n < 2 ^ 30) : ∀ i, i < n → v ≠ nI i := fun i hi e => by
  rw [e, fok_i hi hn] at h
  cases h
theorem ix9 (p k : Nat) : (9 : Int32) * nI p + nI k = nI (9 * p + k) := by
  rw [show (9 : Int32) = nI 9 from rfl, pk_mul, nI_add]
theorem ix7 (p k : Nat) : (7 : Int32) * nI p + nI k = nI (7 * p + k) := by
  rw [show (7 : Int32) = nI 7 from rfl, pk_mul, nI_add]
theorem sw_t {x : Int32} {k : Nat} (hk : k < 2 ^ 31) (h : ¬ x = nI k) : x.toInt ≠ k := fun e => h ((i_eq _ _).mpr (by rw [e, nI_toInt hk]))
theorem sw_out5 {x : Int32} (h0 : ¬ x = 0) (h1 : ¬ x = 1) (h2 : ¬ x = 2) (h3 : ¬ x = 3) (h4 : ¬ x = 4) : x.toInt < 0 ∨ 4 < x.toInt := by
  have g0 := sw_t (k := 0) (by decide) h0
  have g1 := sw_t (k := 1) (by decide) h1
  have g2 := sw_t (k := 2) (by decide) h2
  have g3 := sw_t (k := 3) (by decide) h3
  have g4 := sw_t (k := 4) (by decide) h4
  omega
theorem sw_out7 {x : Int32} (h0 : ¬ x = 0) (h1 : ¬ x = 1) (h2 : ¬ x = 2) (h3 : ¬ x = 3) (h4 : ¬ x = 4) (h5 : ¬ x = 5) (h6 : ¬ x = 6) : x.toInt < 0 ∨ 6 < x.toInt := by
  have g0 := sw_out5 h0 h1 h2 h3 h4
  have g5 := sw_t (k := 5) (by decide) h5
  have g6 := sw_t (k := 6) (by decide) h6
  omega
theorem sw_out8 {x : Int32} (h0 : ¬ x = 0) (h1 : ¬ x = 1) (h2 : ¬ x = 2) (h3 : ¬ x = 3) (h4 : ¬ x = 4) (h5 : ¬ x = 5) (h6 : ¬ x = 6) (h7 : ¬ x = 7) : x.toInt < 0 ∨ 7 < x.toInt := by
  have g0 := sw_out7 h0 h1 h2 h3 h4 h5 h6
  have g7 := sw_t (k := 7) (by decide) h7
  omega
/-- the model's cells are there; how many flights, parties -/
def IM (dm : Nat → Bool) (a : Nat → Nat → Int32) (nF nP : Nat) : Prop := (∀ n, 100 ≤ n → n < 115 → dm n = true) ∧ a 100 1 = nI nF ∧ nF ≤ 8 ∧ a 100 3 = nI nP ∧ nP ≤ 20
theorem IM.d {dm : Nat → Bool} {a : Nat → Nat → Int32} {nF nP : Nat} (h : IM dm a nF nP) (n : Nat) (h1 : 100 ≤ n) (h2 : n < 115) : dm n = true := h.1 n h1 h2
theorem IM.nF {dm : Nat → Bool} {a : Nat → Nat → Int32} {nF nP : Nat} (h : IM dm a nF nP) : a 100 1 = nI nF := h.2.1
theorem IM.nP {dm : Nat → Bool} {a : Nat → Nat → Int32} {nF nP : Nat} (h : IM dm a nF nP) : a 100 3 = nI nP := h.2.2.2.1
/-- the parties that take seats of a flight -/
def flyc (pa : Nat → Int32) (f : Int32) (p : Nat) : Bool := if pa (9 * p + 5) = 0 then decide (pa (9 * p) = f) else (decide (pa (9 * p + 7) = f) || decide (pa (9 * p + 8) = f))
def ldS (pa : Nat → Int32) (f : Int32) : Nat → Int32
  | 0 => 0
  | n + 1 => if flyc pa f n = true then ldS pa f n + pa (9 * n + 1) else ldS pa f n
def mx0 (x : Int32) : Int32 := if 0 < x then x else 0
def ovS (fl pa : Nat → Int32) (nP f : Nat) : Int32 := if fl (7 * f + 6) = 1 then ldS pa (nI f) nP else mx0 (ldS pa (nI f) nP - fl (7 * f + 4))
end
section
/-! what the methods answer, in the specification's words -/
abbrev cN (x : Int32) : Nat := x.toNatClampNeg
theorem cN_nI {n : Nat} (h : n < 2 ^ 31) : cN (nI n) = n := nI_clamp h
def wv (nF : Nat) (v : Int32) : Prop := v = -1 ∨ ∃ i, i < nF ∧ v = nI i
/-- well-formed parties, flights, numbers -/
def WP (nF nP : Nat) (pa : Nat → Int32) : Prop := ∀ p, p < nP → (∃ o, o < nF ∧ pa (9 * p) = nI o) ∧ (∃ s, 1 ≤ s ∧ s ≤ 6 ∧ pa (9 * p + 1) = nI s) ∧ (∃ k, k ≤ 9 ∧ pa (9 * p + 2) = nI k) ∧ (pa (9 * p + 3) = -1 ∨ ∃ k, k ≤ 999 ∧ pa (9 * p + 3) = nI k) ∧ (pa (9 * p + 4) = 0 ∨ pa (9 * p + 4) = 1) ∧ (pa (9 * p + 5) = 0 ∨ pa (9 * p + 5) = 1 ∨ pa (9 * p + 5) = 2) ∧ (∃ k, k ≤ 999 ∧ pa (9 * p + 6) = nI k) ∧ wv nF (pa (9 * p + 7)) ∧ wv nF (pa (9 * p + 8)) ∧ (pa (9 * p + 5) = 0 → pa (9 * p + 6) = 0 ∧ pa (9 * p + 7) = -1 ∧ pa (9 * p + 8) = -1) ∧ (pa (9 * p + 7) = -1 → pa (9 * p + 8) = -1) ∧ pa (9 * p + 7) ≠ pa (9 * p) ∧ pa (9 * p + 8) ≠ pa (9 * p)
def WF (nF : Nat) (fl : Nat → Int32) : Prop := ∀ i, i < nF → (∃ k, k ≤ 7 ∧ fl (7 * i) = nI k) ∧ (∃ k, k ≤ 7 ∧ fl (7 * i + 1) = nI k) ∧ fl (7 * i) ≠ fl (7 * i + 1) ∧ (∃ d r, d < r ∧ r ≤ 9999 ∧ fl (7 * i + 2) = nI d ∧ fl (7 * i + 3) = nI r) ∧ (∃ s, 1 ≤ s ∧ s ≤ 40 ∧ fl (7 * i + 4) = nI s) ∧ (∃ m, 1 ≤ m ∧ m ≤ 9999 ∧ fl (7 * i + 5) = nI m) ∧ (fl (7 * i + 6) = 0 ∨ fl (7 * i + 6) = 1)
def WN (nu : Nat → Int32) : Prop := (∃ c, c ≤ 300 ∧ nu 0 = nI c) ∧ ∀ k, k < 3 → ∃ f, f ≤ 9999 ∧ nu (k + 1) = nI f
/-- people with MUST that fly -/
def msc (pa : Nat → Int32) (f : Int32) (p : Nat) : Bool := decide (pa (9 * p) = f) && decide (pa (9 * p + 4) = 1) && decide (pa (9 * p + 5) = 0)
def smS (pa : Nat → Int32) (c : Nat → Bool) : Nat → Int32
  | 0 => 0
  | n + 1 => if c n = true then smS pa c n + pa (9 * n + 1) else smS pa c n
def tdS (fl pa : Nat → Int32) (nF nP : Nat) (f what : Int32) : Int32 := if fok nF f = true then (if what = 0 then ldS pa f nP else if what = 1 then ovS fl pa nP (cN f) else if what = 2 then fl (7 * cN f + 4) else if what = 3 then fl (7 * cN f + 6) else if what = 4 then smS pa (msc pa f) nP else -1) else -1
/-- ways -/
def w1 (fl : Nat → Int32) (own i : Nat) : Bool := decide (i ≠ own) && decide (fl (7 * i + 6) ≠ 1) && decide (fl (7 * i) = fl (7 * own)) && decide (¬ fl (7 * i + 2) < fl (7 * own + 2))
def w2 (fl nu : Nat → Int32) (i j : Nat) : Bool := decide (fl (7 * j + 6) ≠ 1) && decide (fl (7 * j) = fl (7 * i + 1)) && decide (¬ fl (7 * j + 2) < fl (7 * i + 3) + nu 0)
def wyS (fl nu : Nat → Int32) (own i : Nat) : Option Nat → Bool
  | none => w1 fl own i && decide (fl (7 * i + 1) = fl (7 * own + 1))
  | some j => w1 fl own i && w2 fl nu i j && decide (fl (7 * j + 1) = fl (7 * own + 1))
def ltS (fl : Nat → Int32) (own z : Nat) : Int32 := mx0 (fl (7 * z + 3) - fl (7 * own + 3))
def lbS (fl nu : Nat → Int32) (own i : Nat) (j : Option Nat) : Int32 := if wyS fl nu own i j = true then ltS fl own (j.getD i) else -1
def lbI (fl nu : Nat → Int32) (nF own : Nat) (x y : Int32) : Int32 := if fok nF x = true then (if y = -1 then lbS fl nu own (cN x) none else if fok nF y = true then lbS fl nu own (cN x) (some (cN y)) else -1) else -1
def loS (fl pa : Nat → Int32) (p : Nat) : Int32 := if pa (9 * p + 7) = -1 then -1 else ltS fl (cN (pa (9 * p))) (cN (if pa (9 * p + 8) = -1 then pa (9 * p + 7) else pa (9 * p + 8)))
def bsS (fl pa nu : Nat → Int32) (p : Nat) : Int32 := if fl (7 * cN (pa (9 * p)) + 5) ≤ 1500 then nu 1 else if fl (7 * cN (pa (9 * p)) + 5) ≤ 3500 then nu 2 else nu 3
def clS (fl pa nu : Nat → Int32) (p : Nat) : Int32 := if pa (9 * p + 5) = 0 then 0 else if pa (9 * p + 5) = 1 then pa (9 * p + 6) * pa (9 * p + 1) else (if loS fl pa p = -1 then bsS fl pa nu p else if loS fl pa p < 120 then 0 else if loS fl pa p < 240 then bsS fl pa nu p / 2 else bsS fl pa nu p) * pa (9 * p + 1)
def ofS (fl pa nu : Nat → Int32) (p : Nat) (what : Int32) : Int32 := if what = 0 then pa (9 * p + 5) else if what = 1 then pa (9 * p) else if what = 2 then pa (9 * p + 1) else if what = 3 then pa (9 * p + 6) else if what = 4 then pa (9 * p + 7) else if what = 5 then pa (9 * p + 8) else if what = 6 then loS fl pa p else clS fl pa nu p
def ofK (nP : Nat) (p what : Int32) : Bool := fok nP p && inR what 0 7
/-- count -/
def cnc (fl pa : Nat → Int32) (what : Int32) (p : Nat) : Bool := if what = 2 then (decide (pa (9 * p + 5) = 0) && decide (fl (7 * cN (pa (9 * p)) + 6) = 0)) else if what = 3 then decide (pa (9 * p + 5) = 1) else if what = 4 then decide (pa (9 * p + 5) = 2) else if what = 5 then (decide (0 < pa (9 * p + 5)) && decide (pa (9 * p + 7) ≠ -1)) else false
def csS (fl pa nu : Nat → Int32) : Nat → Int32
  | 0 => 0
  | n + 1 => csS fl pa nu n + clS fl pa nu n
def cnS (fl pa nu : Nat → Int32) (nF nP : Nat) (what : Int32) : Int32 := if what = 0 then nI nF else if what = 1 then nI nP else if inR what 2 6 = true then (if what = 6 then csS fl pa nu nP else smS pa (cnc fl pa what) nP) else -1
/-- who may give -/
def mgS (pa : Nat → Int32) (f : Int32) (p : Nat) : Bool := decide (pa (9 * p) = f) && decide (pa (9 * p + 5) = 0) && decide (pa (9 * p + 3) ≠ -1) && decide (pa (9 * p + 4) = 0)
/-- stranded -/
def stc (pa : Nat → Int32) (p : Nat) : Bool := decide (0 < pa (9 * p + 5)) && decide (pa (9 * p + 7) = -1)
def ctS (c : Nat → Bool) : Nat → Nat
  | 0 => 0
  | n + 1 => if c n = true then ctS c n + 1 else ctS c n
theorem ctS_le (c : Nat → Bool) : ∀ n, ctS c n ≤ n
  | 0 => Nat.le_refl _
  | n + 1 => by
    have h := ctS_le c n
    unfold ctS
    split <;> omega
/-- set -/
def seK (what v : Int32) : Bool := inR what 0 3 && inR v 0 (if what = 0 then 300 else 9999)
/-- undo -/
def unc (fl pa : Nat → Int32) (p : Nat) : Bool := decide (pa (9 * p + 7) ≠ -1) && !(decide (fl (7 * cN (pa (9 * p + 7)) + 6) = 0) && (decide (pa (9 * p + 8) = -1) || decide (fl (7 * cN (pa (9 * p + 8)) + 6) = 0)))
/-- the parties behind: where c says so, the slots 7 and 8 are NONE -/
def unP (c : Nat → Bool) (pa : Nat → Int32) : Nat → Nat → Int32
  | 0 => pa
  | n + 1 => if c n = true then fun j => if j = 9 * n + 8 then -1 else if j = 9 * n + 7 then -1 else unP c pa n j else unP c pa n
/-- a party gives: state 1, coin, no way -/
def gvP (pa : Nat → Int32) (p : Nat) (st coin : Int32) : Nat → Int32 := fun j => if j = 9 * p + 8 then -1 else if j = 9 * p + 7 then -1 else if j = 9 * p + 6 then coin else if j = 9 * p + 5 then st else pa j
theorem IM.th {dm : Nat → Bool} {a : Nat → Nat → Int32} {nF nP : Nat} (h : IM dm a nF nP) {x : Int32} : IM dm (u2 a 100 5 x) nF nP := h
/-- another row of the model is written -/
theorem IM.u {dm : Nat → Bool} {a : Nat → Nat → Int32} {nF nP n k : Nat} {x : Int32} (h : IM dm a nF nP) (hn : 100 ≠ n) : IM dm (u2 a n k x) nF nP := ⟨h.1, by rw [u2_n hn]; exact h.2.1, h.2.2.1, by rw [u2_n hn]; exact h.2.2.2.1, h.2.2.2.2⟩
end
section
/-! facts of the specification's words -/
theorem w1_a {fl : Nat → Int32} {own i : Nat} (h : nI i = nI own) (hi : i < 8) (ho : own < 8) : w1 fl own i = false := by
  have e : i = own := (nI_eq (by omega) (by omega)).mp h
  simp [w1, e]
theorem w1_b {fl : Nat → Int32} {own i : Nat} (h : fl (7 * i + 6) = 1) : w1 fl own i = false := by simp [w1, h]
theorem w1_c {fl : Nat → Int32} {own i : Nat} (h : ¬ fl (7 * i) = fl (7 * own)) : w1 fl own i = false := by simp [w1, h]
theorem w1_d {fl : Nat → Int32} {own i : Nat} (h : ¬ fl (7 * own + 2) ≤ fl (7 * i + 2)) : w1 fl own i = false := by
  have h2 : fl (7 * i + 2) < fl (7 * own + 2) := Int32.not_le.mp h
  simp [w1, h2]
theorem w1_t {fl : Nat → Int32} {own i : Nat} (h : ¬ nI i = nI own) (h1 : ¬ fl (7 * i + 6) = 1) (h2 : fl (7 * i) = fl (7 * own)) (h3 : fl (7 * own + 2) ≤ fl (7 * i + 2)) : w1 fl own i = true := by
  have e : i ≠ own := fun z => h (by rw [z])
  have h4 : ¬ fl (7 * i + 2) < fl (7 * own + 2) := Int32.not_lt.mpr h3
  simp [w1, e, h1, h2, h3]
theorem w2_b {fl nu : Nat → Int32} {i j : Nat} (h : fl (7 * j + 6) = 1) : w2 fl nu i j = false := by simp [w2, h]
theorem w2_c {fl nu : Nat → Int32} {i j : Nat} (h : ¬ fl (7 * j) = fl (7 * i + 1)) : w2 fl nu i j = false := by simp [w2, h]
theorem w2_d {fl nu : Nat → Int32} {i j : Nat} (h : ¬ fl (7 * i + 3) + nu 0 ≤ fl (7 * j + 2)) : w2 fl nu i j = false := by
  have h2 : fl (7 * j + 2) < fl (7 * i + 3) + nu 0 := Int32.not_le.mp h
  simp [w2, h2]
theorem w2_t {fl nu : Nat → Int32} {i j : Nat} (h1 : ¬ fl (7 * j + 6) = 1) (h2 : fl (7 * j) = fl (7 * i + 1)) (h3 : fl (7 * i + 3) + nu 0 ≤ fl (7 * j + 2)) : w2 fl nu i j = true := by
  simp [w2, h1, h2, h3]
theorem lb_f1 {fl nu : Nat → Int32} {nF own : Nat} {x y : Int32} (h : fok nF x = false) : -1 = lbI fl nu nF own x y := by simp [lbI, h]
theorem lb_w1 {fl nu : Nat → Int32} {nF own i : Nat} {y : Int32} (hi : i < nF) (hn : nF ≤ 8) (h : w1 fl own i = false) : -1 = lbI fl nu nF own (nI i) y := by
  rw [lbI, if_pos (fok_i hi (by omega)), cN_nI (by omega)]
  simp [lbS, wyS, h]
theorem lb_f2 {fl nu : Nat → Int32} {nF own i : Nat} {y : Int32} (hi : i < nF) (hn : nF ≤ 8) (h0 : ¬ y = -1) (h : fok nF y = false) : -1 = lbI fl nu nF own (nI i) y := by
  rw [lbI, if_pos (fok_i hi (by omega)), if_neg h0, if_neg (by rw [h]; decide)]
theorem nI_m1 {j : Nat} (hj : j < 2 ^ 31) : ¬ nI j = -1 := fun e => by
  have h := congrArg Int32.toInt e
  rw [nI_toInt hj] at h
  have : (-1 : Int32).toInt = -1 := rfl
  omega
theorem lb_w2 {fl nu : Nat → Int32} {nF own i j : Nat} (hi : i < nF) (hj : j < nF) (hn : nF ≤ 8) (h : w2 fl nu i j = false) : -1 = lbI fl nu nF own (nI i) (nI j) := by
  rw [lbI, if_pos (fok_i hi (by omega)), if_neg (nI_m1 (by omega)), if_pos (fok_i hj (by omega)), cN_nI (by omega), cN_nI (by omega)]
  simp [lbS, wyS, h]
theorem lb_1n {fl nu : Nat → Int32} {nF own i : Nat} {y : Int32} (hi : i < nF) (hn : nF ≤ 8) (h1 : w1 fl own i = true) (h0 : y = -1) (h : ¬ fl (7 * i + 1) = fl (7 * own + 1)) : -1 = lbI fl nu nF own (nI i) y := by
  rw [lbI, if_pos (fok_i hi (by omega)), if_pos h0, cN_nI (by omega)]
  simp [lbS, wyS, h1, h]
theorem lb_1y {fl nu : Nat → Int32} {nF own i : Nat} {y : Int32} (hi : i < nF) (hn : nF ≤ 8) (h1 : w1 fl own i = true) (h0 : y = -1) (h : fl (7 * i + 1) = fl (7 * own + 1)) : ltS fl own i = lbI fl nu nF own (nI i) y := by
  rw [lbI, if_pos (fok_i hi (by omega)), if_pos h0, cN_nI (by omega)]
  simp [lbS, wyS, h1, h]
theorem lb_2n {fl nu : Nat → Int32} {nF own i j : Nat} (hi : i < nF) (hj : j < nF) (hn : nF ≤ 8) (h1 : w1 fl own i = true) (h2 : w2 fl nu i j = true) (h : ¬ fl (7 * j + 1) = fl (7 * own + 1)) : -1 = lbI fl nu nF own (nI i) (nI j) := by
  rw [lbI, if_pos (fok_i hi (by omega)), if_neg (nI_m1 (by omega)), if_pos (fok_i hj (by omega)), cN_nI (by omega), cN_nI (by omega)]
  simp [lbS, wyS, h1, h2, h]
theorem lb_2y {fl nu : Nat → Int32} {nF own i j : Nat} (hi : i < nF) (hj : j < nF) (hn : nF ≤ 8) (h1 : w1 fl own i = true) (h2 : w2 fl nu i j = true) (h : fl (7 * j + 1) = fl (7 * own + 1)) : ltS fl own j = lbI fl nu nF own (nI i) (nI j) := by
  rw [lbI, if_pos (fok_i hi (by omega)), if_neg (nI_m1 (by omega)), if_pos (fok_i hj (by omega)), cN_nI (by omega), cN_nI (by omega)]
  simp [lbS, wyS, h1, h2, h]
/-- one row for another -/
def up1 (a : Nat → Nat → Int32) (n : Nat) (f : Nat → Int32) : Nat → Nat → Int32 := fun i => if i = n then f else a i
theorem up1_s {a : Nat → Nat → Int32} {n : Nat} {f : Nat → Int32} : up1 a n f n = f := by simp [up1]
theorem up1_n {a : Nat → Nat → Int32} {n i : Nat} {f : Nat → Int32} (h : i ≠ n) : up1 a n f i = a i := by simp [up1, h]
theorem up1_id {a : Nat → Nat → Int32} {n : Nat} : up1 a n (a n) = a := by
  funext i
  by_cases h : i = n
  · subst h; exact up1_s
  · exact up1_n h
theorem u2_up {a : Nat → Nat → Int32} {n k : Nat} {f : Nat → Int32} {v : Int32} : u2 (up1 a n f) n k v = up1 a n (fun j => if j = k then v else f j) := by
  funext i j
  by_cases h : i = n <;> simp [u2, up1, h]
theorem u2_up' {a : Nat → Nat → Int32} {n k : Nat} {v : Int32} : u2 a n k v = up1 a n (fun j => if j = k then v else a n j) := by
  funext i j
  by_cases h : i = n <;> simp [u2, up1, h]
theorem up1_up {a : Nat → Nat → Int32} {n : Nat} {f g : Nat → Int32} : up1 (up1 a n f) n g = up1 a n g := by
  funext i
  by_cases h : i = n <;> simp [up1, h]
theorem IM.up {dm : Nat → Bool} {a : Nat → Nat → Int32} {nF nP n : Nat} {f : Nat → Int32} (h : IM dm a nF nP) (hn : 100 ≠ n) : IM dm (up1 a n f) nF nP := ⟨h.1, by rw [up1_n hn]; exact h.2.1, h.2.2.1, by rw [up1_n hn]; exact h.2.2.2.1, h.2.2.2.2⟩
theorem cnc_2 {fl pa : Nat → Int32} {p : Nat} : cnc fl pa 2 p = (decide (pa (9 * p + 5) = 0) && decide (fl (7 * cN (pa (9 * p)) + 6) = 0)) := by rw [cnc, if_pos rfl]
theorem cnc_3 {fl pa : Nat → Int32} {p : Nat} : cnc fl pa 3 p = decide (pa (9 * p + 5) = 1) := by rw [cnc, if_neg (by decide), if_pos rfl]
theorem cnc_4 {fl pa : Nat → Int32} {p : Nat} : cnc fl pa 4 p = decide (pa (9 * p + 5) = 2) := by rw [cnc, if_neg (by decide), if_neg (by decide), if_pos rfl]
theorem cnc_5 {fl pa : Nat → Int32} {p : Nat} : cnc fl pa 5 p = (decide (0 < pa (9 * p + 5)) && decide (pa (9 * p + 7) ≠ -1)) := by rw [cnc, if_neg (by decide), if_neg (by decide), if_neg (by decide), if_pos rfl]
theorem unP_ge {c : Nat → Bool} {pa : Nat → Int32} : ∀ {n j : Nat}, 9 * n ≤ j → unP c pa n j = pa j
  | 0, j, _ => rfl
  | n + 1, j, h => by
    have h1 := unP_ge (c := c) (pa := pa) (n := n) (j := j) (by omega)
    unfold unP
    split
    · dsimp only
      rw [if_neg (by omega), if_neg (by omega)]
      exact h1
    · exact h1
end
section
/-! cells that are made; final fields -/
/-- a new name's slots -/
def upz {α : Type} (f : Nat → Nat → α) (n : Nat) (z : α) : Nat → Nat → α := fun i j => if i = n then z else f i j
theorem upz_n {α : Type} {f : Nat → Nat → α} {n i : Nat} {z : α} (h : i ≠ n) : upz f n z i = f i := by
  funext j
  simp [upz, h]
theorem upz_s {α : Type} {f : Nat → Nat → α} {n : Nat} {z : α} : upz f n z n = fun _ => z := by
  funext j
  simp [upz]
/-- no reference leads to a name -/
def noref (r : Nat → Nat → Option Nat) (dm : Nat → Bool) (n : Nat) : Prop := ∀ i k, dm i = true → r i k ≠ some n
theorem ce_ad {g : GM} {ad ad' : Nat → Nat} {a : Nat → Nat → Int32} {b : Nat → Nat → Int64} {r : Nat → Nat → Option Nat} {n i : Nat} (hk : ∀ ci, ly i = .inl ci → n + 3 ∉ kds ci) (hr : ∀ k, r i k ≠ some n) (h : ∀ m, m ≠ n → ad' m = ad m) : ce g ad' a b r i = ce g ad a b r i := by
  have hm : ∀ k, (r i k).map ad' = (r i k).map ad := fun k => by
    cases hk9 : r i k with
    | none => rfl
    | some m => exact congrArg some (h m (fun e => hr k (by rw [hk9, e])))
  unfold ce
  cases hl : ly i with
  | inl ci =>
    dsimp only
    have key : ∀ (ts : List Nat) (k : Nat), n + 3 ∉ ts → vls ad' (a i) (b i) (r i) k ts = vls ad (a i) (b i) (r i) k ts := by
      intro ts
      induction ts with
      | nil => intro k _; rfl
      | cons t ts ih =>
        intro k hn
        simp only [vls]
        rw [ih (k + 1) (fun z => hn (List.mem_cons_of_mem _ z))]
        have h9 : vl ad' (a i) (b i) (r i) k t = vl ad (a i) (b i) (r i) k t := by
          match t, hn with
          | 0, _ => rfl
          | 1, _ => rfl
          | 2, _ => simp only [vl]; rw [hm]
          | t + 3, hn => simp only [vl]; rw [h t (fun e => hn (by rw [e]; exact List.mem_cons_self))]
        rw [h9]
    rw [key _ _ (hk ci hl)]
  | inr x =>
    obtain ⟨t, len⟩ := x
    match t with
    | 0 => rfl
    | 1 => rfl
    | 2 => simp only [hm]
    | t + 3 => simp only [hm]
section GN
variable {E : EN} {cc : ByteArray} {own : String} {lev cl sl : Nat} {ad : Nat → Nat} {dm : Nat → Bool} {a : Nat → Nat → Int32} {b : Nat → Nat → Int64} {r : Nat → Nat → Option Nat} {pc q : Nat} {lo : List (Option Value)} {rest : List Value}
theorem g_dm {dm' : Nat → Bool} {st : List Value} (h : ∀ n, dm' n = true → dm n = true) (k : G E cl sl ad dm' a b r pc lo st) : G E cl sl ad dm a b r pc lo st := fun H L ls hW hS hl => k H L ls ⟨hW.1, fun n hn => hW.2.1 n (h n hn), fun n m hn hm => hW.2.2 n m (h n hn) (h m hm)⟩ hS hl
/-- the world with one cell more -/
theorem Wd.new {g : GM} {bs : Nat} {H H1 : Heap} {n : Nat} {a' : Nat → Nat → Int32} {b' : Nat → Nat → Int64} {r' : Nat → Nat → Option Nat} (h : Wd g bs ad dm a b r H) (hn : dm n = false) (hz : H1.size = H.size + 1) (ho : ∀ q, q < H.size → H1[q]? = H[q]?) (hk : ∀ ci, n + 3 ∉ kds ci) (hr : noref r dm n) (hs : ∀ i, i ≠ n → a i = a' i ∧ b i = b' i ∧ r i = r' i)
    (hc : va_at g.1 vwCl (H.size, ce g (va_up ad n H.size) a' b' r' n) H1) : Wd g bs (va_up ad n H.size) (va_up dm n true) a' b' r' H1 := by
  have hlt : ∀ i, dm i = true → ad i < H.size := fun i hi => (h.2.1 i hi).2.lt
  have hne : ∀ i, dm i = true → i ≠ n := fun i hi e => by rw [e, hn] at hi; cases hi
  refine ⟨by rw [hz]; have := h.1; omega, fun i hi => ?_, fun i j hi hj e => ?_⟩
  · by_cases e : i = n
    · subst e
      rw [va_up_self]
      exact ⟨h.1, hc⟩
    · rw [va_up_ne _ _ e] at hi ⊢
      obtain ⟨s1, s2, s3⟩ := hs i e
      refine ⟨(h.2.1 i hi).1, ?_⟩
      rw [← ce_cong s1 s2 s3, ce_ad (n := n) (fun ci _ => hk ci) (fun k => hr i k hi) (fun m hm => va_up_ne _ _ hm)]
      exact (h.2.1 i hi).2.kept (ho _ (hlt i hi))
  · by_cases ei : i = n
    · subst ei
      by_cases ej : j = i
      · exact ej.symm
      · rw [va_up_self, va_up_ne _ _ ej] at e
        rw [va_up_ne _ _ ej] at hj
        have := hlt j hj
        omega
    · rw [va_up_ne _ _ ei] at hi e
      by_cases ej : j = n
      · subst ej
        rw [va_up_self] at e
        have := hlt i hi
        omega
      · rw [va_up_ne _ _ ej] at hj e
        exact h.2.2 i j hi hj e
/-- at the end: a cell that was made and is forgotten -/
theorem g_fin {n : Nat} {ad0 : Nat → Nat} {dm0 : Nat → Bool} {a0 : Nat → Nat → Int32} {b0 : Nat → Nat → Int64} {r0 : Nat → Nat → Option Nat} {st : List Value} (hdm : dm0 n = false) (h : ∀ i, dm0 i = true → dm i = true ∧ a i = a0 i ∧ b i = b0 i ∧ r i = r0 i) (had : ∀ m, m ≠ n → ad m = ad0 m) (hk : ∀ ci, n + 3 ∉ kds ci) (hr : noref r0 dm0 n) (k : G E cl sl ad0 dm0 a0 b0 r0 pc [] st) : G E cl sl ad dm a b r pc lo st := fun H L ls hW hS hl => by
  have hne : ∀ i, dm0 i = true → i ≠ n := fun i hi e => by rw [e, hdm] at hi; cases hi
  refine k H L ls ⟨hW.1, fun i hi => ?_, fun i j hi hj e => ?_⟩ hS ⟨hl.1, hl.2.1, fun q hq => by cases hq⟩
  · obtain ⟨h1, s1, s2, s3⟩ := h i hi
    rw [← had i (hne i hi)]
    refine ⟨(hW.2.1 i h1).1, ?_⟩
    have h9 := (hW.2.1 i h1).2
    rw [ce_cong s1 s2 s3, ce_ad (n := n) (ad := ad0) (fun ci _ => hk ci) (fun k => hr i k hi) had] at h9
    exact h9
  · exact hW.2.2 i j (h i hi).1 (h j hj).1 (by rw [had i (hne i hi), had j (hne j hj)]; exact e)
theorem va_S.grow {A : Nat → Prop} {H0 H H1 : Heap} {locs : List Loc} (h : va_S A H0 H locs) (hz : H1.size = H.size + 1) (ho : ∀ q, q < H.size → H1[q]? = H[q]?) : va_S A H0 H1 locs := ⟨by have := h.1; omega, fun q h1 h2 => (ho q (Nat.lt_of_lt_of_le h1 h.1)).trans (h.2.1 q h1 h2), h.2.2⟩
/-- a new row of ints -/
theorem g_newi {n N : Nat} {v : Int32} (C : CX E cc own lev) (d : decode cc pc = .ok (.newarray .int, 2)) (hq : pc + 2 = q) (hw : Cond.arrayClass .int ∈ gd) (hl : ly n = .inr (0, N)) (hn : dm n = false) (hk : ∀ ci, n + 3 ∉ kds ci) (hr : noref r dm n) (hv : v = nI N) (hN : N < 1000) (hc : cl + 1 ≤ (eR E).cells ∧ sl + N ≤ (eR E).slots)
    (kk : ∀ ad' : Nat → Nat, (∀ m, m ≠ n → ad' m = ad m) → G E (cl + 1) (sl + N) ad' (va_up dm n true) (upz a n 0) b r q lo (.ref (ad' n) :: rest)) : G E cl sl ad dm a b r pc lo (.int v :: rest) := fun H L ls hW hS hl' => by
  subst hq
  subst hv
  obtain ⟨hx, hb, hml, hown, hts, hK, hf, hlc⟩ := C
  refine va_newaK (atype := .int) hx hb (hts _ hw) rfl d rfl (nI_pos (by omega)) (nI_clamp (by omega)) (by show N * 4 ≤ _; omega) hc.1 hc.2 rfl fun H1 cA e1 z1 o1 hAr hNm => ?_
  have hcA : cA = (eG E).2.1 := Option.some.inj (hNm.symm.trans (hK.2 0 _ rfl).2)
  subst hcA
  have h9 := kk (va_up ad n H.size) (fun m hm => va_up_ne _ _ hm) H1 L ls (hW.new hn z1 o1 hk hr (fun i hi => ⟨(upz_n hi).symm, rfl, rfl⟩) (by rw [ce_i hl, upz_s]; exact e1)) (hS.grow z1 o1) hl'
  rw [va_up_self] at h9
  exact h9
/-- a new object of a class -/
theorem g_newo {n ci idx N : Nat} {Cn : String} {T : u_T} {ty : Nat → FieldType} (C : CX E cc own lev) (d : decode cc pc = .ok (.new idx, 3)) (hq : pc + 3 = q) (hc1 : vwCl[ci]? = some (Cn, T, N)) (hin : ∀ w ∈ u_ws Cn T N, w ∈ gd) (hty : ∀ k, k < N → parseFieldDescriptor (T k).2.2.1 = some (ty k)) (hw : Cond.classLink own idx Cn ∈ gd ∧ Cond.instantiable Cn N ∈ gd ∧ Cond.initialized Cn ∈ gd) (hl : ly n = .inl ci) (hn : dm n = false) (hk : ∀ ci, n + 3 ∉ kds ci) (hr : noref r dm n)
    (hz : ∀ j, j < N → defaultValue (ty j) = vp_V (vls (fun _ => 0) (fun _ => 0) (fun _ => 0) (fun _ => none) 0 (kds ci)) j) (hcs : ∀ t ∈ kds ci, t < 3) (hc : cl + 1 ≤ (eR E).cells ∧ sl + N ≤ (eR E).slots)
    (kk : ∀ ad' : Nat → Nat, (∀ m, m ≠ n → ad' m = ad m) → G E (cl + 1) (sl + N) ad' (va_up dm n true) (upz a n 0) (upz b n 0) (upz r n none) q lo (.ref (ad' n) :: rest)) : G E cl sl ad dm a b r pc lo rest := fun H L ls hW hS hl' => by
  subst hq
  obtain ⟨hx, hb, hml, hown, hts, hK, hf, hlc⟩ := C
  have hKn := hK.1 ci _ hc1
  refine W.newcK hx hb hown (hts _ hw.1) (hts _ hw.2.1) (hts _ hw.2.2) rfl d hc.1 hc.2 hKn.2.1 rfl fun H1 kC hkC e1 z1 o1 => ?_
  have e9 : vls (va_up ad n H.size) (fun _ => 0) (fun _ => 0) (fun _ => none) 0 (kds ci) = vls (fun _ => 0) (fun _ => 0) (fun _ => 0) (fun _ => none) 0 (kds ci) := by
    have key : ∀ (ts : List Nat) (k : Nat), (∀ t ∈ ts, t < 3) → vls (va_up ad n H.size) (fun _ => 0) (fun _ => 0) (fun _ => none) k ts = vls (fun _ => 0) (fun _ => 0) (fun _ => 0) (fun _ => none) k ts := by
      intro ts
      induction ts with
      | nil => intro k _; rfl
      | cons t ts ih =>
        intro k ht
        simp only [vls]
        rw [ih (k + 1) (fun z hz => ht z (List.mem_cons_of_mem _ hz))]
        have ht0 := ht t List.mem_cons_self
        match t, ht0 with
        | 0, _ => rfl
        | 1, _ => rfl
        | 2, _ => rfl
    exact key _ 0 hcs
  have h9 := kk (va_up ad n H.size) (fun m hm => va_up_ne _ _ hm) H1 L ls (hW.new hn z1 o1 hk hr (fun i hi => ⟨(upz_n hi).symm, (upz_n hi).symm, (upz_n hi).symm⟩) (by
    rw [ce_o hl, upz_s, upz_s, upz_s, e9]
    exact ⟨_, hc1, (u_born ty hts hin hKn hkC e1 hty).to hz⟩)) (hS.grow z1 o1) hl'
  rw [va_up_self] at h9
  exact h9
/-- a final field, in a constructor -/
theorem g_putF {idx ci k t n : Nat} {ty : FieldType} {v : Value} {a' : Nat → Nat → Int32} {b' : Nat → Nat → Int64} {r' : Nat → Nat → Option Nat} (C : CX E cc own lev) (F : FP own idx ci k t true ty) (d : decode cc pc = .ok (.putfield idx, 3)) (hq : pc + 3 = q) (hl : ly n = .inl ci) (hd : dm n = true) (hn : narrow ty v = v) (hf : fits ty v = true) (hin : (eH E).name = "<init>" ∧ (vwCl[ci]?).map (·.1) = some own)
    (hs : ∀ i, i ≠ n → a i = a' i ∧ b i = b' i ∧ r i = r' i) (hv : vl ad (a' n) (b' n) (r' n) k t = v) (ho : ∀ i u, i ≠ k → vl ad (a n) (b n) (r n) i u = vl ad (a' n) (b' n) (r' n) i u)
    (kk : G E cl sl ad dm a' b' r' q lo rest) : G E cl sl ad dm a b r pc lo (v :: .ref (ad n) :: rest) := fun H L ls hW hS hl' => by
  subst hq
  obtain ⟨Cn, T, N, ty0, h1, h2, h3, h4, h5, h6, hty, hnm, hfin, hty1, hdc⟩ := F
  obtain ⟨hx, hb, hml, hown, hts, hK, -⟩ := C
  have hCn : Cn = own := by have := hin.2; rw [h1] at this; exact Option.some.inj this
  have hat := (hW.2.1 n hd).2
  rw [ce_o hl] at hat
  have hap := va_apart (own := own) hts h2 ty0 hty hnm hK h1
  obtain ⟨rr, g1, cell, q1, q2, q3, q4⟩ := hat
  have hr : rr = (Cn, T, N) := Option.some.inj (g1.symm.trans h1)
  subst hr
  obtain ⟨hSl, hfc, kC, hkC, hkind⟩ := hK.1 ci _ h1
  obtain ⟨cf, kf, fi, f, hi, hsl⟩ := hSl k h4
  have hlay := hts _ (h2 _ (u_in_lay h4))
  unfold u_lay at hlay
  rw [if_pos hfin] at hlay
  have hst := (u_facts hfc hkC (u_lays hts h2 h4) hi).1
  have hcf : (eM E).cls = cf := by
    obtain ⟨_, _, c', _, _, _, -, -, hf', -, -, -, hown2, -⟩ := Cond.laysFinal_spec hlay
    have e1 : c' = cf := by have := hi.symm.trans hf'; simp at this; exact this.1.symm
    rw [hdc, hCn] at hown2
    rw [← e1]; exact Option.some.inj (hown.symm.trans hown2)
  have h9 := u_fits (v := v) hfc hkC hkind (Or.inr hlay) hi (hty k h4) (by rw [hty1]; exact hn) (by rw [hty1]; exact hf)
  refine W.putFinK hx hb hown (hts _ h3) hi hst hcf hin.1 (by rw [q2]; exact h9) q1 q3 (by rw [hsl]; exact k2_hasslot (q4 k h4)) rfl rfl d fun H' e1 e2 e3 => ?_
  rw [hsl] at e1 ⊢
  have hkl : k < (vls ad (a n) (b n) (r n) 0 (kds ci)).length := by rw [vls_len, h6]; exact h4
  have e4 : (vls ad (a n) (b n) (r n) 0 (kds ci)).set k v = vls ad (a' n) (b' n) (r' n) 0 (kds ci) := vls_set (kds ci) 0 k t h5 (by rw [Nat.zero_add]; exact hv) (fun i u hi => ho i u (by omega))
  refine kk H' _ ls (hW.st hd e2 e3 ?_ hs) (hS.put e2 e3 (hW.2.1 n hd).1) hl'
  rw [ce_o hl]
  exact ⟨_, h1, t_OB.to (V := updV (vp_V (vls ad (a n) (b n) (r n) 0 (kds ci))) k v) ⟨_, e1, q2, q3, t_set q4 hap h4 v⟩ (fun j _ => by rw [vp_updV_set hkl v j, e4])⟩
theorem g_putFi {idx ci k n : Nat} {x : Int32} {ty : FieldType} (C : CX E cc own lev) (F : FP own idx ci k 0 true ty) (d : decode cc pc = .ok (.putfield idx, 3)) (hq : pc + 3 = q) (hl : ly n = .inl ci) (hd : dm n = true) (hn : narrow ty (.int x) = .int x) (hf : fits ty (.int x) = true) (hin : (eH E).name = "<init>" ∧ (vwCl[ci]?).map (·.1) = some own) (kk : G E cl sl ad dm (u2 a n k x) b r q lo rest) : G E cl sl ad dm a b r pc lo (.int x :: .ref (ad n) :: rest) :=
  g_putF C F d hq hl hd hn hf hin (fun i hi => ⟨(u2_n hi).symm, rfl, rfl⟩) (by show Value.int (u2 a n k x n k) = _; rw [u2_s]) (fun i u hi => vl_u2 u hi) kk
theorem g_putFr {idx ci k n m : Nat} {ty : FieldType} (C : CX E cc own lev) (F : FP own idx ci k 2 true ty) (d : decode cc pc = .ok (.putfield idx, 3)) (hq : pc + 3 = q) (hl : ly n = .inl ci) (hd : dm n = true) (hn : narrow ty (.ref (ad m)) = .ref (ad m)) (hf : fits ty (.ref (ad m)) = true) (hin : (eH E).name = "<init>" ∧ (vwCl[ci]?).map (·.1) = some own) (kk : G E cl sl ad dm a b (u2 r n k (some m)) q lo rest) : G E cl sl ad dm a b r pc lo (.ref (ad m) :: .ref (ad n) :: rest) :=
  g_putF C F d hq hl hd hn hf hin (fun i hi => ⟨rfl, rfl, (u2_n hi).symm⟩) (by show va_rf ((u2 r n k (some m) n k).map ad) = _; rw [u2_s]; rfl) (fun i u hi => vl_u2r u hi) kk
/-- Object's constructor -/
theorem g_oinit {idx n : Nat} (C : CX E cc own lev) (w : Cond.methodLink own idx Lib.objectInit ∈ gd ∧ Cond.instanceMethod Lib.objectInit ∈ gd ∧ Cond.code Lib.objectInit ⟨#[0xb1]⟩ 1 none ∈ gd) (d : decode cc pc = .ok (.invokespecial idx, 3)) (hq : pc + 3 = q) (hlev : 0 < lev) (hr : (rest.map fun v => v.category).sum ≤ 8) (kk : G E cl sl ad dm a b r q lo rest) : G E cl sl ad dm a b r pc lo (.ref n :: rest) := fun H L ls hW hS hl => by
  subst hq
  obtain ⟨hx, hb, hml, hown, hts, hK, hf, hlc⟩ := C
  exact W.objInit hx hb hown (hts _ w.1) (hts _ w.2.1) (hts _ w.2.2) rfl (hl.1.trans hml.symm) rfl d (by omega) (by have := lv_room (m := eM E) (pc := pc) (ls := ls) (rest := .ref n :: rest) hr; omega) (kk H L ls hW hS hl)
end GN
theorem ac_I : Cond.arrayClass .int ∈ gd := gd_1 71 (by decide +kernel) rfl
theorem kds_far {n : Nat} (h : 115 ≤ n) : ∀ ci, n + 3 ∉ kds ci := by
  intro ci hm
  have key : ∀ t ∈ kds ci, t < 118 := by
    match ci with
    | 0 => decide
    | 1 => decide
    | 2 => decide
    | 3 => decide
    | _ + 4 => show ∀ t ∈ [104, 0, 105, 0, 106, 0, 107, 108, 109, 0, 110, 111, 112, 113, 114, 115, 116, 117, 0, 0], t < 118; decide
  have := key _ hm
  omega
theorem kds_obj {n : Nat} (h : 17 ≤ n) (h2 : n < 100) : ∀ ci, n + 3 ∉ kds ci := by
  intro ci hm
  have key : ∀ t ∈ kds ci, t < 20 ∨ 104 ≤ t := by
    match ci with
    | 0 => decide
    | 1 => decide
    | 2 => decide
    | 3 => decide
    | _ + 4 => show ∀ t ∈ [104, 0, 105, 0, 106, 0, 107, 108, 109, 0, 110, 111, 112, 113, 114, 115, 116, 117, 0, 0], t < 20 ∨ 104 ≤ t; decide
  have := key _ hm
  omega
/-- references lead to the class's own cells -/
def NR (r : Nat → Nat → Option Nat) : Prop := ∀ i k m, r i k = some m → m < 100
theorem NR.no {r : Nat → Nat → Option Nat} {dm : Nat → Bool} {n : Nat} (h : NR r) (hn : 100 ≤ n) : noref r dm n := fun i k _ e => by
  have := h i k n e
  omega
end
section
section M10
variable {g : GM} {bs : Nat} {l : Launch} {ad : Nat → Nat} {dm : Nat → Bool} {a : Nat → Nat → Int32} {b : Nat → Nat → Int64} {r : Nat → Nat → Option Nat} {nF nP : Nat}
set_option maxHeartbeats 4000000 in
set_option maxRecDepth 100000 in
theorem m_X4_in (v x y : Int32) : MT g bs l yX4_in cX4_in 3 (some .boolean) 0 0 0 [.int v, .int x, .int y] ad dm a b r (PX (some (.int (bI (inR v x y)))) ad dm a b r) := by
  refine mt_of (by decide) [some (.int v), some (.int x), some (.int y)] rfl (Nat.le_of_ble_eq_true rfl) ?_
  intro E hg hbs hl hN C RT9 hcells hslots hname
  refine g_iload_0 (q := 1) C dX4_in_0 rfl ?_
  refine g_iload_1 (q := 2) C dX4_in_1 rfl ?_
  refine g_icmp_lt (tgt := 14) (q := 5) C dX4_in_2 rfl (by decide) (fun c_2 => ?_) (fun c_2 => ?_)
  · refine g_iconst (v := 0) (q := 15) C dX4_in_14 rfl (by decide) ?_
    exact g_zret C RT9 dX4_in_15 rfl (pxi (by first | (rw [in_f1 c_2]; rfl) | (rw [in_f2 c_7]; rfl) | (rw [in_t c_2 c_7]; rfl)))
  · refine g_iload_0 (q := 6) C dX4_in_5 rfl ?_
    refine g_iload_2 (q := 7) C dX4_in_6 rfl ?_
    refine g_icmp_gt (tgt := 14) (q := 10) C dX4_in_7 rfl (by decide) (fun c_7 => ?_) (fun c_7 => ?_)
    · refine g_iconst (v := 0) (q := 15) C dX4_in_14 rfl (by decide) ?_
      exact g_zret C RT9 dX4_in_15 rfl (pxi (by first | (rw [in_f1 c_2]; rfl) | (rw [in_f2 c_7]; rfl) | (rw [in_t c_2 c_7]; rfl)))
    · refine g_iconst (v := 1) (q := 11) C dX4_in_10 rfl (by decide) ?_
      refine g_goto (tgt := 15) C dX4_in_11 (by decide) ?_
      exact g_zret C RT9 dX4_in_15 rfl (pxi (by first | (rw [in_f1 c_2]; rfl) | (rw [in_f2 c_7]; rfl) | (rw [in_t c_2 c_7]; rfl)))

set_option maxHeartbeats 4000000 in
set_option maxRecDepth 100000 in
theorem m_X4_isFlight (I : IM dm a nF nP) (v : Int32) : MT g bs l yX4_isFlight cX4_isFlight 2 (some .boolean) 1 0 0 [.ref (ad 100), .int v] ad dm a b r (PX (some (.int (bI (fok nF v)))) ad dm a b r) := by
  refine mt_of (by decide) [some (.ref (ad 100)), some (.int v)] rfl (Nat.le_of_ble_eq_true rfl) ?_
  intro E hg hbs hl hN C RT9 hcells hslots hname
  refine g_iload_1 (q := 1) C dX4_isFlight_0 rfl ?_
  refine g_iconst (v := 0) (q := 2) C dX4_isFlight_1 rfl (by decide) ?_
  refine g_aload_0 (q := 3) C dX4_isFlight_2 rfl ?_
  refine g_geti (q := 6) C f_X4_56 dX4_isFlight_3 rfl rfl (IM.d I _ (by decide) (by decide)) ?_
  refine g_iconst (v := 1) (q := 7) C dX4_isFlight_6 rfl (by decide) ?_
  refine g_isub (q := 8) C dX4_isFlight_7 rfl ?_
  refine g_cs3i (q := 11) C cs_X4_59 dX4_isFlight_8 rfl (m_X4_in _ _ _) (by decide) (Nat.le_of_ble_eq_true rfl) ⟨Nat.zero_le _, Nat.zero_le _⟩ ?_
  exact g_zret C RT9 dX4_isFlight_11 (nar_bI _) (pxi (by rw [I.nF]; rfl))

set_option maxHeartbeats 4000000 in
set_option maxRecDepth 100000 in
theorem m_X4_isParty (I : IM dm a nF nP) (v : Int32) : MT g bs l yX4_isParty cX4_isParty 2 (some .boolean) 1 0 0 [.ref (ad 100), .int v] ad dm a b r (PX (some (.int (bI (fok nP v)))) ad dm a b r) := by
  refine mt_of (by decide) [some (.ref (ad 100)), some (.int v)] rfl (Nat.le_of_ble_eq_true rfl) ?_
  intro E hg hbs hl hN C RT9 hcells hslots hname
  refine g_iload_1 (q := 1) C dX4_isParty_0 rfl ?_
  refine g_iconst (v := 0) (q := 2) C dX4_isParty_1 rfl (by decide) ?_
  refine g_aload_0 (q := 3) C dX4_isParty_2 rfl ?_
  refine g_geti (q := 6) C f_X4_63 dX4_isParty_3 rfl rfl (IM.d I _ (by decide) (by decide)) ?_
  refine g_iconst (v := 1) (q := 7) C dX4_isParty_6 rfl (by decide) ?_
  refine g_isub (q := 8) C dX4_isParty_7 rfl ?_
  refine g_cs3i (q := 11) C cs_X4_59 dX4_isParty_8 rfl (m_X4_in _ _ _) (by decide) (Nat.le_of_ble_eq_true rfl) ⟨Nat.zero_le _, Nat.zero_le _⟩ ?_
  exact g_zret C RT9 dX4_isParty_11 (nar_bI _) (pxi (by rw [I.nP]; rfl))

set_option maxHeartbeats 4000000 in
set_option maxRecDepth 100000 in
theorem m_X4_get (I : IM dm a nF nP) {p k : Nat} (hp : 9 * p + k < 180) {x y : Int32} (hx : x = nI p) (hy : y = nI k) : MT g bs l yX4_get cX4_get 3 (some .int) 0 0 0 [.ref (ad 100), .int x, .int y] ad dm a b r (PX (some (.int (a 102 (9 * p + k)))) ad dm a b r) := by
  refine mt_of (by decide) [some (.ref (ad 100)), some (.int x), some (.int y)] rfl (Nat.le_of_ble_eq_true rfl) ?_
  intro E hg hbs hl hN C RT9 hcells hslots hname
  refine g_aload_0 (q := 1) C dX4_get_0 rfl ?_
  refine g_getc (q := 4) (m := 102) C f_X4_13 dX4_get_1 rfl rfl (IM.d I _ (by decide) (by decide)) ?_
  refine g_bipush (v := 9) (q := 6) C dX4_get_4 rfl (by decide) ?_
  refine g_iload_1 (q := 7) C dX4_get_6 rfl ?_
  refine g_imul (q := 8) C dX4_get_7 rfl ?_
  refine g_iload_2 (q := 9) C dX4_get_8 rfl ?_
  refine g_iadd (q := 10) C dX4_get_9 rfl ?_
  refine g_ia (q := 11) C dX4_get_10 rfl rfl (IM.d I _ (by decide) (by decide)) (by rw [hx, hy]; exact ix9 p k) hp (by decide) ?_
  exact g_iret C RT9 dX4_get_11 (px rfl)

theorem m_X4_get0 (I : IM dm a nF nP) {p : Nat} (hp : p < 20) {x : Int32} (hx : x = nI p) : MT g bs l yX4_get cX4_get 3 (some .int) 0 0 0 [.ref (ad 100), .int x, .int 0] ad dm a b r (PX (some (.int (a 102 (9 * p)))) ad dm a b r) := m_X4_get (k := 0) I (by omega) hx rfl
set_option maxHeartbeats 4000000 in
set_option maxRecDepth 100000 in
theorem m_X4_put (I : IM dm a nF nP) {p k : Nat} (hp : 9 * p + k < 180) {x y : Int32} (hx : x = nI p) (hy : y = nI k) (v : Int32) : MT g bs l yX4_put cX4_put 4 none 0 0 0 [.ref (ad 100), .int x, .int y, .int v] ad dm a b r (PX none ad dm (u2 a 102 (9 * p + k) v) b r) := by
  refine mt_of (by decide) [some (.ref (ad 100)), some (.int x), some (.int y), some (.int v)] rfl (Nat.le_of_ble_eq_true rfl) ?_
  intro E hg hbs hl hN C RT9 hcells hslots hname
  refine g_aload_0 (q := 1) C dX4_put_0 rfl ?_
  refine g_getc (q := 4) (m := 102) C f_X4_13 dX4_put_1 rfl rfl (IM.d I _ (by decide) (by decide)) ?_
  refine g_bipush (v := 9) (q := 6) C dX4_put_4 rfl (by decide) ?_
  refine g_iload_1 (q := 7) C dX4_put_6 rfl ?_
  refine g_imul (q := 8) C dX4_put_7 rfl ?_
  refine g_iload_2 (q := 9) C dX4_put_8 rfl ?_
  refine g_iadd (q := 10) C dX4_put_9 rfl ?_
  refine g_iload_3 (q := 11) C dX4_put_10 rfl ?_
  refine g_iast (q := 12) C dX4_put_11 rfl rfl (IM.d I _ (by decide) (by decide)) (by rw [hx, hy]; exact ix9 p k) hp (by decide) ?_
  exact g_vret C RT9 dX4_put_12 (px rfl)

set_option maxHeartbeats 4000000 in
set_option maxRecDepth 100000 in
theorem m_X4_of7 (I : IM dm a nF nP) {p k : Nat} (hp : 7 * p + k < 56) {x y : Int32} (hx : x = nI p) (hy : y = nI k) : MT g bs l yX4_of7 cX4_of7 3 (some .int) 0 0 0 [.ref (ad 100), .int x, .int y] ad dm a b r (PX (some (.int (a 101 (7 * p + k)))) ad dm a b r) := by
  refine mt_of (by decide) [some (.ref (ad 100)), some (.int x), some (.int y)] rfl (Nat.le_of_ble_eq_true rfl) ?_
  intro E hg hbs hl hN C RT9 hcells hslots hname
  refine g_aload_0 (q := 1) C dX4_of7_0 rfl ?_
  refine g_getc (q := 4) (m := 101) C f_X4_9 dX4_of7_1 rfl rfl (IM.d I _ (by decide) (by decide)) ?_
  refine g_bipush (v := 7) (q := 6) C dX4_of7_4 rfl (by decide) ?_
  refine g_iload_1 (q := 7) C dX4_of7_6 rfl ?_
  refine g_imul (q := 8) C dX4_of7_7 rfl ?_
  refine g_iload_2 (q := 9) C dX4_of7_8 rfl ?_
  refine g_iadd (q := 10) C dX4_of7_9 rfl ?_
  refine g_ia (q := 11) C dX4_of7_10 rfl rfl (IM.d I _ (by decide) (by decide)) (by rw [hx, hy]; exact ix7 p k) hp (by decide) ?_
  exact g_iret C RT9 dX4_of7_11 (px rfl)

theorem m_X4_of70 (I : IM dm a nF nP) {p : Nat} (hp : p < 8) {x : Int32} (hx : x = nI p) : MT g bs l yX4_of7 cX4_of7 3 (some .int) 0 0 0 [.ref (ad 100), .int x, .int 0] ad dm a b r (PX (some (.int (a 101 (7 * p)))) ad dm a b r) := m_X4_of7 (k := 0) I (by omega) hx rfl
set_option maxHeartbeats 4000000 in
set_option maxRecDepth 100000 in
theorem m_X4_thrown (I : IM dm a nF nP) : MT g bs l yX4_thrown cX4_thrown 1 (some .int) 0 0 0 [.ref (ad 100)] ad dm a b r (PX (some (.int (a 100 5))) ad dm a b r) := by
  refine mt_of (by decide) [some (.ref (ad 100))] rfl (Nat.le_of_ble_eq_true rfl) ?_
  intro E hg hbs hl hN C RT9 hcells hslots hname
  refine g_aload_0 (q := 1) C dX4_thrown_0 rfl ?_
  refine g_geti (q := 4) C f_X4_52 dX4_thrown_1 rfl rfl (IM.d I _ (by decide) (by decide)) ?_
  exact g_iret C RT9 dX4_thrown_4 (px rfl)

set_option maxHeartbeats 4000000 in
set_option maxRecDepth 100000 in
theorem m_X4_load (I : IM dm a nF nP) (f : Int32) : MT g bs l yX4_load cX4_load 4 (some .int) 1 0 0 [.ref (ad 100), .int f] ad dm a b r (PX (some (.int (ldS (a 102) f nP))) ad dm a b r) := by
  refine mt_of (by decide) [some (.ref (ad 100)), some (.int f), none, none] rfl (Nat.le_of_ble_eq_true rfl) ?_
  intro E hg hbs hl hN C RT9 hcells hslots hname
  have hnF := I.2.2.1
  have hnP := I.2.2.2.2
  have lp : ∀ (k i : Nat) (acc : Int32), i + k = nP → acc = ldS (a 102) f i → G E 0 0 ad dm a b r 4 [some (.ref (ad 100)), some (.int f), some (.int acc), some (.int (nI i))] [] := by
    intro k
    induction k with
    | zero =>
      intro i acc hi hacc
      refine g_iload_3 (q := 5) C dX4_load_4 rfl ?_
      refine g_aload_0 (q := 6) C dX4_load_5 rfl ?_
      refine g_geti (q := 9) C f_X4_63 dX4_load_6 rfl rfl (IM.d I _ (by decide) (by decide)) ?_
      refine g_icmp_ge (tgt := 71) (q := 12) C dX4_load_9 rfl (by decide) (fun c_9 => ?_) (fun c_9 => absurd (by rw [I.nP]; exact nI_le (by omega) (by omega)) c_9)
      refine g_iload_2 (q := 72) C dX4_load_71 rfl ?_
      exact g_iret C RT9 dX4_load_72 (pxi (by rw [hacc, show i = nP by omega]))
    | succ k ih =>
      intro i acc hi hacc
      refine g_iload_3 (q := 5) C dX4_load_4 rfl ?_
      refine g_aload_0 (q := 6) C dX4_load_5 rfl ?_
      refine g_geti (q := 9) C f_X4_63 dX4_load_6 rfl rfl (IM.d I _ (by decide) (by decide)) ?_
      refine g_icmp_ge (tgt := 71) (q := 12) C dX4_load_9 rfl (by decide) (fun c_9 => absurd c_9 (by rw [I.nP]; exact nI_ge (by omega) (by omega))) (fun c_9 => ?_)
      refine g_aload_0 (q := 13) C dX4_load_12 rfl ?_
      refine g_iload_3 (q := 14) C dX4_load_13 rfl ?_
      refine g_iconst (v := 5) (q := 15) C dX4_load_14 rfl (by decide) ?_
      refine g_cv2i (q := 18) C cv_X4_70 dX4_load_15 rfl rfl (IM.d I _ (by decide) (by decide)) (m_X4_get I (k := 5) (by omega) rfl rfl) (by decide) (Nat.le_of_ble_eq_true rfl) ⟨Nat.zero_le _, Nat.zero_le _⟩ ?_
      refine g_if_ne (tgt := 34) (q := 21) C dX4_load_18 rfl (by decide) (fun c_18 => ?_) (fun c_18 => ?_)
      · refine g_aload_0 (q := 35) C dX4_load_34 rfl ?_
        refine g_iload_3 (q := 36) C dX4_load_35 rfl ?_
        refine g_bipush (v := 7) (q := 38) C dX4_load_36 rfl (by decide) ?_
        refine g_cv2i (q := 41) C cv_X4_70 dX4_load_38 rfl rfl (IM.d I _ (by decide) (by decide)) (m_X4_get I (k := 7) (by omega) rfl rfl) (by decide) (Nat.le_of_ble_eq_true rfl) ⟨Nat.zero_le _, Nat.zero_le _⟩ ?_
        refine g_iload_1 (q := 42) C dX4_load_41 rfl ?_
        refine g_icmp_eq (tgt := 56) (q := 45) C dX4_load_42 rfl (by decide) (fun c_42 => ?_) (fun c_42 => ?_)
        · refine g_iload_2 (q := 57) C dX4_load_56 rfl ?_
          refine g_aload_0 (q := 58) C dX4_load_57 rfl ?_
          refine g_iload_3 (q := 59) C dX4_load_58 rfl ?_
          refine g_iconst (v := 1) (q := 60) C dX4_load_59 rfl (by decide) ?_
          refine g_cv2i (q := 63) C cv_X4_70 dX4_load_60 rfl rfl (IM.d I _ (by decide) (by decide)) (m_X4_get I (k := 1) (by omega) rfl rfl) (by decide) (Nat.le_of_ble_eq_true rfl) ⟨Nat.zero_le _, Nat.zero_le _⟩ ?_
          refine g_iadd (q := 64) C dX4_load_63 rfl ?_
          refine g_istore_2 (q := 65) C dX4_load_64 rfl (by rw [hN]; decide) rfl ?_
          refine g_iinc_3 (v := nI (i + 1)) (q := 68) C dX4_load_65 rfl (by rw [hN]; decide) (nI_1 i) ?_
          refine g_goto (tgt := 4) C dX4_load_68 (by decide) ?_
          exact ih (i + 1) _ (by omega) (by first | (simp [ldS, flyc, hacc, c_18, c_42, c_53]) | (simp [ldS, flyc, hacc, c_18, c_42]) | (simp [ldS, flyc, hacc, c_18, c_28]))
        · refine g_aload_0 (q := 46) C dX4_load_45 rfl ?_
          refine g_iload_3 (q := 47) C dX4_load_46 rfl ?_
          refine g_bipush (v := 8) (q := 49) C dX4_load_47 rfl (by decide) ?_
          refine g_cv2i (q := 52) C cv_X4_70 dX4_load_49 rfl rfl (IM.d I _ (by decide) (by decide)) (m_X4_get I (k := 8) (by omega) rfl rfl) (by decide) (Nat.le_of_ble_eq_true rfl) ⟨Nat.zero_le _, Nat.zero_le _⟩ ?_
          refine g_iload_1 (q := 53) C dX4_load_52 rfl ?_
          refine g_icmp_ne (tgt := 65) (q := 56) C dX4_load_53 rfl (by decide) (fun c_53 => ?_) (fun c_53 => ?_)
          · refine g_iinc_3 (v := nI (i + 1)) (q := 68) C dX4_load_65 rfl (by rw [hN]; decide) (nI_1 i) ?_
            refine g_goto (tgt := 4) C dX4_load_68 (by decide) ?_
            exact ih (i + 1) _ (by omega) (by first | (simp [ldS, flyc, hacc, c_18, c_42, c_53]) | (simp [ldS, flyc, hacc, c_18, c_42]) | (simp [ldS, flyc, hacc, c_18, c_28]))
          · refine g_iload_2 (q := 57) C dX4_load_56 rfl ?_
            refine g_aload_0 (q := 58) C dX4_load_57 rfl ?_
            refine g_iload_3 (q := 59) C dX4_load_58 rfl ?_
            refine g_iconst (v := 1) (q := 60) C dX4_load_59 rfl (by decide) ?_
            refine g_cv2i (q := 63) C cv_X4_70 dX4_load_60 rfl rfl (IM.d I _ (by decide) (by decide)) (m_X4_get I (k := 1) (by omega) rfl rfl) (by decide) (Nat.le_of_ble_eq_true rfl) ⟨Nat.zero_le _, Nat.zero_le _⟩ ?_
            refine g_iadd (q := 64) C dX4_load_63 rfl ?_
            refine g_istore_2 (q := 65) C dX4_load_64 rfl (by rw [hN]; decide) rfl ?_
            refine g_iinc_3 (v := nI (i + 1)) (q := 68) C dX4_load_65 rfl (by rw [hN]; decide) (nI_1 i) ?_
            refine g_goto (tgt := 4) C dX4_load_68 (by decide) ?_
            exact ih (i + 1) _ (by omega) (by first | (simp [ldS, flyc, hacc, c_18, c_42, c_53]) | (simp [ldS, flyc, hacc, c_18, c_42]) | (simp [ldS, flyc, hacc, c_18, c_28]))
      · refine g_aload_0 (q := 22) C dX4_load_21 rfl ?_
        refine g_iload_3 (q := 23) C dX4_load_22 rfl ?_
        refine g_iconst (v := 0) (q := 24) C dX4_load_23 rfl (by decide) ?_
        refine g_cv2i (q := 27) C cv_X4_70 dX4_load_24 rfl rfl (IM.d I _ (by decide) (by decide)) (m_X4_get0 I (by omega) rfl) (by decide) (Nat.le_of_ble_eq_true rfl) ⟨Nat.zero_le _, Nat.zero_le _⟩ ?_
        refine g_iload_1 (q := 28) C dX4_load_27 rfl ?_
        refine g_icmp_ne (tgt := 65) (q := 31) C dX4_load_28 rfl (by decide) (fun c_28 => ?_) (fun c_28 => ?_)
        · refine g_iinc_3 (v := nI (i + 1)) (q := 68) C dX4_load_65 rfl (by rw [hN]; decide) (nI_1 i) ?_
          refine g_goto (tgt := 4) C dX4_load_68 (by decide) ?_
          exact ih (i + 1) _ (by omega) (by first | (simp [ldS, flyc, hacc, c_18, c_42, c_53]) | (simp [ldS, flyc, hacc, c_18, c_42]) | (simp [ldS, flyc, hacc, c_18, c_28]))
        · refine g_goto (tgt := 56) C dX4_load_31 (by decide) ?_
          refine g_iload_2 (q := 57) C dX4_load_56 rfl ?_
          refine g_aload_0 (q := 58) C dX4_load_57 rfl ?_
          refine g_iload_3 (q := 59) C dX4_load_58 rfl ?_
          refine g_iconst (v := 1) (q := 60) C dX4_load_59 rfl (by decide) ?_
          refine g_cv2i (q := 63) C cv_X4_70 dX4_load_60 rfl rfl (IM.d I _ (by decide) (by decide)) (m_X4_get I (k := 1) (by omega) rfl rfl) (by decide) (Nat.le_of_ble_eq_true rfl) ⟨Nat.zero_le _, Nat.zero_le _⟩ ?_
          refine g_iadd (q := 64) C dX4_load_63 rfl ?_
          refine g_istore_2 (q := 65) C dX4_load_64 rfl (by rw [hN]; decide) rfl ?_
          refine g_iinc_3 (v := nI (i + 1)) (q := 68) C dX4_load_65 rfl (by rw [hN]; decide) (nI_1 i) ?_
          refine g_goto (tgt := 4) C dX4_load_68 (by decide) ?_
          exact ih (i + 1) _ (by omega) (by first | (simp [ldS, flyc, hacc, c_18, c_42, c_53]) | (simp [ldS, flyc, hacc, c_18, c_42]) | (simp [ldS, flyc, hacc, c_18, c_28]))
  refine g_iconst (v := 0) (q := 1) C dX4_load_0 rfl (by decide) ?_
  refine g_istore_2 (q := 2) C dX4_load_1 rfl (by rw [hN]; decide) rfl ?_
  refine g_iconst (v := 0) (q := 3) C dX4_load_2 rfl (by decide) ?_
  refine g_istore_3 (q := 4) C dX4_load_3 rfl (by rw [hN]; decide) rfl ?_
  exact lp nP 0 0 (by omega) rfl

set_option maxHeartbeats 4000000 in
set_option maxRecDepth 100000 in
theorem m_X4_over (I : IM dm a nF nP) {f : Nat} (hf : f < nF) {x : Int32} (hx : x = nI f) : MT g bs l yX4_over cX4_over 2 (some .int) 2 0 0 [.ref (ad 100), .int x] ad dm a b r (PX (some (.int (ovS (a 101) (a 102) nP f))) ad dm a b r) := by
  refine mt_of (by decide) [some (.ref (ad 100)), some (.int x)] rfl (Nat.le_of_ble_eq_true rfl) ?_
  intro E hg hbs hl hN C RT9 hcells hslots hname
  have hnF := I.2.2.1
  have hnP := I.2.2.2.2
  subst hx
  refine g_aload_0 (q := 1) C dX4_over_0 rfl ?_
  refine g_iload_1 (q := 2) C dX4_over_1 rfl ?_
  refine g_bipush (v := 6) (q := 4) C dX4_over_2 rfl (by decide) ?_
  refine g_cv2i (q := 7) C cv_X4_74 dX4_over_4 rfl rfl (IM.d I _ (by decide) (by decide)) (m_X4_of7 I (k := 6) (by omega) rfl rfl) (by decide) (Nat.le_of_ble_eq_true rfl) ⟨Nat.zero_le _, Nat.zero_le _⟩ ?_
  refine g_iconst (v := 1) (q := 8) C dX4_over_7 rfl (by decide) ?_
  refine g_icmp_ne (tgt := 17) (q := 11) C dX4_over_8 rfl (by decide) (fun c_8 => ?_) (fun c_8 => ?_)
  · refine g_iconst (v := 0) (q := 18) C dX4_over_17 rfl (by decide) ?_
    refine g_aload_0 (q := 19) C dX4_over_18 rfl ?_
    refine g_iload_1 (q := 20) C dX4_over_19 rfl ?_
    refine g_cv1i (q := 23) C cv_X4_77 dX4_over_20 rfl rfl (IM.d I _ (by decide) (by decide)) (m_X4_load I _) (by decide) (Nat.le_of_ble_eq_true rfl) ⟨Nat.zero_le _, Nat.zero_le _⟩ ?_
    refine g_aload_0 (q := 24) C dX4_over_23 rfl ?_
    refine g_iload_1 (q := 25) C dX4_over_24 rfl ?_
    refine g_iconst (v := 4) (q := 26) C dX4_over_25 rfl (by decide) ?_
    refine g_cv2i (q := 29) C cv_X4_74 dX4_over_26 rfl rfl (IM.d I _ (by decide) (by decide)) (m_X4_of7 I (k := 4) (by omega) rfl rfl) (by decide) (Nat.le_of_ble_eq_true rfl) ⟨Nat.zero_le _, Nat.zero_le _⟩ ?_
    refine g_isub (q := 30) C dX4_over_29 rfl ?_
    refine g_mmax (q := 33) C cm_X4_81 dX4_over_30 rfl (by decide) (Nat.le_of_ble_eq_true rfl) ⟨Nat.zero_le _, Nat.zero_le _⟩ ?_
    exact g_iret C RT9 dX4_over_33 (pxi (by rw [ovS, if_neg c_8]; rfl))
  · refine g_aload_0 (q := 12) C dX4_over_11 rfl ?_
    refine g_iload_1 (q := 13) C dX4_over_12 rfl ?_
    refine g_cv1i (q := 16) C cv_X4_77 dX4_over_13 rfl rfl (IM.d I _ (by decide) (by decide)) (m_X4_load I _) (by decide) (Nat.le_of_ble_eq_true rfl) ⟨Nat.zero_le _, Nat.zero_le _⟩ ?_
    exact g_iret C RT9 dX4_over_16 (pxi (by rw [ovS, if_pos c_8]))

end M10
end
section
section M11
variable {g : GM} {bs : Nat} {l : Launch} {ad : Nat → Nat} {dm : Nat → Bool} {a : Nat → Nat → Int32} {b : Nat → Nat → Int64} {r : Nat → Nat → Option Nat} {nF nP : Nat}
set_option maxHeartbeats 4000000 in
set_option maxRecDepth 100000 in
theorem m_X4_mayGive (I : IM dm a nF nP) {q : Nat} (hq : q < nP) {x : Int32} (hx : x = nI q) (f : Int32) : MT g bs l yX4_mayGive cX4_mayGive 3 (some .boolean) 1 0 0 [.ref (ad 100), .int x, .int f] ad dm a b r (PX (some (.int (bI (mgS (a 102) f q)))) ad dm a b r) := by
  refine mt_of (by decide) [some (.ref (ad 100)), some (.int x), some (.int f)] rfl (Nat.le_of_ble_eq_true rfl) ?_
  intro E hg hbs hl hN C RT9 hcells hslots hname
  have hnF := I.2.2.1
  have hnP := I.2.2.2.2
  subst hx
  refine g_aload_0 (q := 1) C dX4_mayGive_0 rfl ?_
  refine g_iload_1 (q := 2) C dX4_mayGive_1 rfl ?_
  refine g_iconst (v := 0) (q := 3) C dX4_mayGive_2 rfl (by decide) ?_
  refine g_cv2i (q := 6) C cv_X4_70 dX4_mayGive_3 rfl rfl (IM.d I _ (by decide) (by decide)) (m_X4_get0 I (by omega) rfl) (by decide) (Nat.le_of_ble_eq_true rfl) ⟨Nat.zero_le _, Nat.zero_le _⟩ ?_
  refine g_iload_2 (q := 7) C dX4_mayGive_6 rfl ?_
  refine g_icmp_ne (tgt := 42) (q := 10) C dX4_mayGive_7 rfl (by decide) (fun c_7 => ?_) (fun c_7 => ?_)
  · refine g_iconst (v := 0) (q := 43) C dX4_mayGive_42 rfl (by decide) ?_
    exact g_zret C RT9 dX4_mayGive_43 rfl (pxi (by first | (simp [mgS, bI, c_7, c_16, c_26, c_35]) | (simp [mgS, bI, c_7, c_16, c_26]) | (simp [mgS, bI, c_7, c_16]) | (simp [mgS, bI, c_7])))
  · refine g_aload_0 (q := 11) C dX4_mayGive_10 rfl ?_
    refine g_iload_1 (q := 12) C dX4_mayGive_11 rfl ?_
    refine g_iconst (v := 5) (q := 13) C dX4_mayGive_12 rfl (by decide) ?_
    refine g_cv2i (q := 16) C cv_X4_70 dX4_mayGive_13 rfl rfl (IM.d I _ (by decide) (by decide)) (m_X4_get I (k := 5) (by omega) rfl rfl) (by decide) (Nat.le_of_ble_eq_true rfl) ⟨Nat.zero_le _, Nat.zero_le _⟩ ?_
    refine g_if_ne (tgt := 42) (q := 19) C dX4_mayGive_16 rfl (by decide) (fun c_16 => ?_) (fun c_16 => ?_)
    · refine g_iconst (v := 0) (q := 43) C dX4_mayGive_42 rfl (by decide) ?_
      exact g_zret C RT9 dX4_mayGive_43 rfl (pxi (by first | (simp [mgS, bI, c_7, c_16, c_26, c_35]) | (simp [mgS, bI, c_7, c_16, c_26]) | (simp [mgS, bI, c_7, c_16]) | (simp [mgS, bI, c_7])))
    · refine g_aload_0 (q := 20) C dX4_mayGive_19 rfl ?_
      refine g_iload_1 (q := 21) C dX4_mayGive_20 rfl ?_
      refine g_iconst (v := 3) (q := 22) C dX4_mayGive_21 rfl (by decide) ?_
      refine g_cv2i (q := 25) C cv_X4_70 dX4_mayGive_22 rfl rfl (IM.d I _ (by decide) (by decide)) (m_X4_get I (k := 3) (by omega) rfl rfl) (by decide) (Nat.le_of_ble_eq_true rfl) ⟨Nat.zero_le _, Nat.zero_le _⟩ ?_
      refine g_iconst (v := (-1)) (q := 26) C dX4_mayGive_25 rfl (by decide) ?_
      refine g_icmp_eq (tgt := 42) (q := 29) C dX4_mayGive_26 rfl (by decide) (fun c_26 => ?_) (fun c_26 => ?_)
      · refine g_iconst (v := 0) (q := 43) C dX4_mayGive_42 rfl (by decide) ?_
        exact g_zret C RT9 dX4_mayGive_43 rfl (pxi (by first | (simp [mgS, bI, c_7, c_16, c_26, c_35]) | (simp [mgS, bI, c_7, c_16, c_26]) | (simp [mgS, bI, c_7, c_16]) | (simp [mgS, bI, c_7])))
      · refine g_aload_0 (q := 30) C dX4_mayGive_29 rfl ?_
        refine g_iload_1 (q := 31) C dX4_mayGive_30 rfl ?_
        refine g_iconst (v := 4) (q := 32) C dX4_mayGive_31 rfl (by decide) ?_
        refine g_cv2i (q := 35) C cv_X4_70 dX4_mayGive_32 rfl rfl (IM.d I _ (by decide) (by decide)) (m_X4_get I (k := 4) (by omega) rfl rfl) (by decide) (Nat.le_of_ble_eq_true rfl) ⟨Nat.zero_le _, Nat.zero_le _⟩ ?_
        refine g_if_ne (tgt := 42) (q := 38) C dX4_mayGive_35 rfl (by decide) (fun c_35 => ?_) (fun c_35 => ?_)
        · refine g_iconst (v := 0) (q := 43) C dX4_mayGive_42 rfl (by decide) ?_
          exact g_zret C RT9 dX4_mayGive_43 rfl (pxi (by first | (simp [mgS, bI, c_7, c_16, c_26, c_35]) | (simp [mgS, bI, c_7, c_16, c_26]) | (simp [mgS, bI, c_7, c_16]) | (simp [mgS, bI, c_7])))
        · refine g_iconst (v := 1) (q := 39) C dX4_mayGive_38 rfl (by decide) ?_
          refine g_goto (tgt := 43) C dX4_mayGive_39 (by decide) ?_
          exact g_zret C RT9 dX4_mayGive_43 rfl (pxi (by first | (simp [mgS, bI, c_7, c_16, c_26, c_35]) | (simp [mgS, bI, c_7, c_16, c_26]) | (simp [mgS, bI, c_7, c_16]) | (simp [mgS, bI, c_7])))

set_option maxHeartbeats 4000000 in
set_option maxRecDepth 100000 in
theorem m_X4_lateOf (I : IM dm a nF nP) (W : WP nF nP (a 102)) {q : Nat} (hq : q < nP) {x : Int32} (hx : x = nI q) : MT g bs l yX4_lateOf cX4_lateOf 3 (some .int) 1 0 0 [.ref (ad 100), .int x] ad dm a b r (PX (some (.int (loS (a 101) (a 102) q))) ad dm a b r) := by
  refine mt_of (by decide) [some (.ref (ad 100)), some (.int x), none] rfl (Nat.le_of_ble_eq_true rfl) ?_
  intro E hg hbs hl hN C RT9 hcells hslots hname
  have hnF := I.2.2.1
  have hnP := I.2.2.2.2
  subst hx
  obtain ⟨⟨o, ho, eo⟩, -, -, -, -, -, -, h7, h8, -⟩ := W q hq
  refine g_aload_0 (q := 1) C dX4_lateOf_0 rfl ?_
  refine g_iload_1 (q := 2) C dX4_lateOf_1 rfl ?_
  refine g_bipush (v := 7) (q := 4) C dX4_lateOf_2 rfl (by decide) ?_
  refine g_cv2i (q := 7) C cv_X4_70 dX4_lateOf_4 rfl rfl (IM.d I _ (by decide) (by decide)) (m_X4_get I (k := 7) (by omega) rfl rfl) (by decide) (Nat.le_of_ble_eq_true rfl) ⟨Nat.zero_le _, Nat.zero_le _⟩ ?_
  refine g_iconst (v := (-1)) (q := 8) C dX4_lateOf_7 rfl (by decide) ?_
  refine g_icmp_ne (tgt := 13) (q := 11) C dX4_lateOf_8 rfl (by decide) (fun c_8 => ?_) (fun c_8 => ?_)
  · obtain ⟨i7, hi7, e7⟩ : ∃ i, i < nF ∧ a 102 (9 * q + 7) = nI i := h7.elim (fun h => absurd h c_8) id
    refine g_aload_0 (q := 14) C dX4_lateOf_13 rfl ?_
    refine g_iload_1 (q := 15) C dX4_lateOf_14 rfl ?_
    refine g_bipush (v := 8) (q := 17) C dX4_lateOf_15 rfl (by decide) ?_
    refine g_cv2i (q := 20) C cv_X4_70 dX4_lateOf_17 rfl rfl (IM.d I _ (by decide) (by decide)) (m_X4_get I (k := 8) (by omega) rfl rfl) (by decide) (Nat.le_of_ble_eq_true rfl) ⟨Nat.zero_le _, Nat.zero_le _⟩ ?_
    refine g_iconst (v := (-1)) (q := 21) C dX4_lateOf_20 rfl (by decide) ?_
    refine g_icmp_ne (tgt := 34) (q := 24) C dX4_lateOf_21 rfl (by decide) (fun c_21 => ?_) (fun c_21 => ?_)
    · obtain ⟨i8, hi8, e8⟩ : ∃ i, i < nF ∧ a 102 (9 * q + 8) = nI i := h8.elim (fun h => absurd h c_21) id
      refine g_aload_0 (q := 35) C dX4_lateOf_34 rfl ?_
      refine g_iload_1 (q := 36) C dX4_lateOf_35 rfl ?_
      refine g_bipush (v := 8) (q := 38) C dX4_lateOf_36 rfl (by decide) ?_
      refine g_cv2i (q := 41) C cv_X4_70 dX4_lateOf_38 rfl rfl (IM.d I _ (by decide) (by decide)) (m_X4_get I (k := 8) (by omega) rfl rfl) (by decide) (Nat.le_of_ble_eq_true rfl) ⟨Nat.zero_le _, Nat.zero_le _⟩ ?_
      first | rw [e8] | rw [e7]
      refine g_istore_2 (q := 42) C dX4_lateOf_41 rfl (by rw [hN]; decide) rfl ?_
      refine g_iconst (v := 0) (q := 43) C dX4_lateOf_42 rfl (by decide) ?_
      refine g_aload_0 (q := 44) C dX4_lateOf_43 rfl ?_
      refine g_iload_2 (q := 45) C dX4_lateOf_44 rfl ?_
      refine g_iconst (v := 3) (q := 46) C dX4_lateOf_45 rfl (by decide) ?_
      refine g_cv2i (q := 49) C cv_X4_74 dX4_lateOf_46 rfl rfl (IM.d I _ (by decide) (by decide)) (m_X4_of7 I (k := 3) (by omega) rfl rfl) (by decide) (Nat.le_of_ble_eq_true rfl) ⟨Nat.zero_le _, Nat.zero_le _⟩ ?_
      refine g_aload_0 (q := 50) C dX4_lateOf_49 rfl ?_
      refine g_aload_0 (q := 51) C dX4_lateOf_50 rfl ?_
      refine g_iload_1 (q := 52) C dX4_lateOf_51 rfl ?_
      refine g_iconst (v := 0) (q := 53) C dX4_lateOf_52 rfl (by decide) ?_
      refine g_cv2i (q := 56) C cv_X4_70 dX4_lateOf_53 rfl rfl (IM.d I _ (by decide) (by decide)) (m_X4_get0 I (by omega) rfl) (by decide) (Nat.le_of_ble_eq_true rfl) ⟨Nat.zero_le _, Nat.zero_le _⟩ ?_
      rw [eo]
      refine g_iconst (v := 3) (q := 57) C dX4_lateOf_56 rfl (by decide) ?_
      refine g_cv2i (q := 60) C cv_X4_74 dX4_lateOf_57 rfl rfl (IM.d I _ (by decide) (by decide)) (m_X4_of7 I (k := 3) (by omega) rfl rfl) (by decide) (Nat.le_of_ble_eq_true rfl) ⟨Nat.zero_le _, Nat.zero_le _⟩ ?_
      refine g_isub (q := 61) C dX4_lateOf_60 rfl ?_
      refine g_mmax (q := 64) C cm_X4_81 dX4_lateOf_61 rfl (by decide) (Nat.le_of_ble_eq_true rfl) ⟨Nat.zero_le _, Nat.zero_le _⟩ ?_
      exact g_iret C RT9 dX4_lateOf_64 (pxi (by rw [loS, if_neg c_8]; first | (rw [if_neg c_21, e8, eo, cN_nI (by omega), cN_nI (by omega)]; rfl) | (rw [if_pos c_21, e7, eo, cN_nI (by omega), cN_nI (by omega)]; rfl)))
    · refine g_aload_0 (q := 25) C dX4_lateOf_24 rfl ?_
      refine g_iload_1 (q := 26) C dX4_lateOf_25 rfl ?_
      refine g_bipush (v := 7) (q := 28) C dX4_lateOf_26 rfl (by decide) ?_
      refine g_cv2i (q := 31) C cv_X4_70 dX4_lateOf_28 rfl rfl (IM.d I _ (by decide) (by decide)) (m_X4_get I (k := 7) (by omega) rfl rfl) (by decide) (Nat.le_of_ble_eq_true rfl) ⟨Nat.zero_le _, Nat.zero_le _⟩ ?_
      refine g_goto (tgt := 41) C dX4_lateOf_31 (by decide) ?_
      first | rw [e8] | rw [e7]
      refine g_istore_2 (q := 42) C dX4_lateOf_41 rfl (by rw [hN]; decide) rfl ?_
      refine g_iconst (v := 0) (q := 43) C dX4_lateOf_42 rfl (by decide) ?_
      refine g_aload_0 (q := 44) C dX4_lateOf_43 rfl ?_
      refine g_iload_2 (q := 45) C dX4_lateOf_44 rfl ?_
      refine g_iconst (v := 3) (q := 46) C dX4_lateOf_45 rfl (by decide) ?_
      refine g_cv2i (q := 49) C cv_X4_74 dX4_lateOf_46 rfl rfl (IM.d I _ (by decide) (by decide)) (m_X4_of7 I (k := 3) (by omega) rfl rfl) (by decide) (Nat.le_of_ble_eq_true rfl) ⟨Nat.zero_le _, Nat.zero_le _⟩ ?_
      refine g_aload_0 (q := 50) C dX4_lateOf_49 rfl ?_
      refine g_aload_0 (q := 51) C dX4_lateOf_50 rfl ?_
      refine g_iload_1 (q := 52) C dX4_lateOf_51 rfl ?_
      refine g_iconst (v := 0) (q := 53) C dX4_lateOf_52 rfl (by decide) ?_
      refine g_cv2i (q := 56) C cv_X4_70 dX4_lateOf_53 rfl rfl (IM.d I _ (by decide) (by decide)) (m_X4_get0 I (by omega) rfl) (by decide) (Nat.le_of_ble_eq_true rfl) ⟨Nat.zero_le _, Nat.zero_le _⟩ ?_
      rw [eo]
      refine g_iconst (v := 3) (q := 57) C dX4_lateOf_56 rfl (by decide) ?_
      refine g_cv2i (q := 60) C cv_X4_74 dX4_lateOf_57 rfl rfl (IM.d I _ (by decide) (by decide)) (m_X4_of7 I (k := 3) (by omega) rfl rfl) (by decide) (Nat.le_of_ble_eq_true rfl) ⟨Nat.zero_le _, Nat.zero_le _⟩ ?_
      refine g_isub (q := 61) C dX4_lateOf_60 rfl ?_
      refine g_mmax (q := 64) C cm_X4_81 dX4_lateOf_61 rfl (by decide) (Nat.le_of_ble_eq_true rfl) ⟨Nat.zero_le _, Nat.zero_le _⟩ ?_
      exact g_iret C RT9 dX4_lateOf_64 (pxi (by rw [loS, if_neg c_8]; first | (rw [if_neg c_21, e8, eo, cN_nI (by omega), cN_nI (by omega)]; rfl) | (rw [if_pos c_21, e7, eo, cN_nI (by omega), cN_nI (by omega)]; rfl)))
  · refine g_iconst (v := (-1)) (q := 12) C dX4_lateOf_11 rfl (by decide) ?_
    exact g_iret C RT9 dX4_lateOf_12 (pxi (by rw [loS, if_pos c_8]))

set_option maxHeartbeats 4000000 in
set_option maxRecDepth 100000 in
theorem m_X4_claim (I : IM dm a nF nP) (W : WP nF nP (a 102)) {q : Nat} (hq : q < nP) {x : Int32} (hx : x = nI q) : MT g bs l yX4_claim cX4_claim 5 (some .int) 2 0 0 [.ref (ad 100), .int x] ad dm a b r (PX (some (.int (clS (a 101) (a 102) (a 103) q))) ad dm a b r) := by
  refine mt_of (by decide) [some (.ref (ad 100)), some (.int x), none, none, none] rfl (Nat.le_of_ble_eq_true rfl) ?_
  intro E hg hbs hl hN C RT9 hcells hslots hname
  have hnF := I.2.2.1
  have hnP := I.2.2.2.2
  subst hx
  obtain ⟨⟨o, ho, eo⟩, -⟩ := W q hq
  have J : ¬ a 102 (9 * q + 5) = 0 → ¬ a 102 (9 * q + 5) = 1 → ∀ mv bv : Int32, bv = bsS (a 101) (a 102) (a 103) q → G E 0 0 ad dm a b r 86 [some (.ref (ad 100)), some (.int (nI q)), some (.int mv), none, none] [.int bv] := by
    intro c_6 c_18 mv bv hbv
    subst hbv
    refine g_istore_3 (q := 87) C dX4_claim_86 rfl (by rw [hN]; decide) rfl ?_
    refine g_aload_0 (q := 88) C dX4_claim_87 rfl ?_
    refine g_iload_1 (q := 89) C dX4_claim_88 rfl ?_
    refine g_cv1i (q := 92) C cv_X4_89 dX4_claim_89 rfl rfl (IM.d I _ (by decide) (by decide)) (m_X4_lateOf I W (by assumption) rfl) (by decide) (Nat.le_of_ble_eq_true rfl) ⟨Nat.zero_le _, Nat.zero_le _⟩ ?_
    refine g_istore_4 (q := 94) C dX4_claim_92 rfl (by rw [hN]; decide) rfl ?_
    refine g_iload_4 (q := 96) C dX4_claim_94 rfl ?_
    refine g_iconst (v := (-1)) (q := 97) C dX4_claim_96 rfl (by decide) ?_
    refine g_icmp_eq (tgt := 112) (q := 100) C dX4_claim_97 rfl (by decide) (fun c_97 => ?_) (fun c_97 => ?_)
    · refine g_iload_4 (q := 114) C dX4_claim_112 rfl ?_
      refine g_iconst (v := (-1)) (q := 115) C dX4_claim_114 rfl (by decide) ?_
      refine g_icmp_eq (tgt := 130) (q := 118) C dX4_claim_115 rfl (by decide) (fun c_115 => ?_) (fun c_115 => ?_)
      · refine g_iload_3 (q := 131) C dX4_claim_130 rfl ?_
        refine g_aload_0 (q := 132) C dX4_claim_131 rfl ?_
        refine g_iload_1 (q := 133) C dX4_claim_132 rfl ?_
        refine g_iconst (v := 1) (q := 134) C dX4_claim_133 rfl (by decide) ?_
        refine g_cv2i (q := 137) C cv_X4_70 dX4_claim_134 rfl rfl (IM.d I _ (by decide) (by decide)) (m_X4_get I (k := 1) (by omega) rfl rfl) (by decide) (Nat.le_of_ble_eq_true rfl) ⟨Nat.zero_le _, Nat.zero_le _⟩ ?_
        refine g_imul (q := 138) C dX4_claim_137 rfl ?_
        exact g_iret C RT9 dX4_claim_138 (pxi (by rw [clS, if_neg c_6, if_neg c_18]; first | exact absurd c_97 c_115 | exact absurd c_115 c_97 | rw [if_pos c_97] | rw [if_neg c_97, if_pos (Int32.not_le.mp c_104)] | rw [if_neg c_97, if_neg (Int32.not_lt.mpr c_104), if_pos (Int32.not_le.mp c_123)] | rw [if_neg c_97, if_neg (Int32.not_lt.mpr c_104), if_neg (Int32.not_lt.mpr c_123)]))
      · refine g_iload_4 (q := 120) C dX4_claim_118 rfl ?_
        refine g_sipush (v := 240) (q := 123) C dX4_claim_120 rfl (by decide) ?_
        refine g_icmp_ge (tgt := 130) (q := 126) C dX4_claim_123 rfl (by decide) (fun c_123 => ?_) (fun c_123 => ?_)
        · refine g_iload_3 (q := 131) C dX4_claim_130 rfl ?_
          refine g_aload_0 (q := 132) C dX4_claim_131 rfl ?_
          refine g_iload_1 (q := 133) C dX4_claim_132 rfl ?_
          refine g_iconst (v := 1) (q := 134) C dX4_claim_133 rfl (by decide) ?_
          refine g_cv2i (q := 137) C cv_X4_70 dX4_claim_134 rfl rfl (IM.d I _ (by decide) (by decide)) (m_X4_get I (k := 1) (by omega) rfl rfl) (by decide) (Nat.le_of_ble_eq_true rfl) ⟨Nat.zero_le _, Nat.zero_le _⟩ ?_
          refine g_imul (q := 138) C dX4_claim_137 rfl ?_
          exact g_iret C RT9 dX4_claim_138 (pxi (by rw [clS, if_neg c_6, if_neg c_18]; first | exact absurd c_97 c_115 | exact absurd c_115 c_97 | rw [if_pos c_97] | rw [if_neg c_97, if_pos (Int32.not_le.mp c_104)] | rw [if_neg c_97, if_neg (Int32.not_lt.mpr c_104), if_pos (Int32.not_le.mp c_123)] | rw [if_neg c_97, if_neg (Int32.not_lt.mpr c_104), if_neg (Int32.not_lt.mpr c_123)]))
        · refine g_iload_3 (q := 127) C dX4_claim_126 rfl ?_
          refine g_iconst (v := 2) (q := 128) C dX4_claim_127 rfl (by decide) ?_
          refine g_idiv (q := 129) C dX4_claim_128 rfl (by decide) ?_
          refine g_istore_3 (q := 130) C dX4_claim_129 rfl (by rw [hN]; decide) rfl ?_
          refine g_iload_3 (q := 131) C dX4_claim_130 rfl ?_
          refine g_aload_0 (q := 132) C dX4_claim_131 rfl ?_
          refine g_iload_1 (q := 133) C dX4_claim_132 rfl ?_
          refine g_iconst (v := 1) (q := 134) C dX4_claim_133 rfl (by decide) ?_
          refine g_cv2i (q := 137) C cv_X4_70 dX4_claim_134 rfl rfl (IM.d I _ (by decide) (by decide)) (m_X4_get I (k := 1) (by omega) rfl rfl) (by decide) (Nat.le_of_ble_eq_true rfl) ⟨Nat.zero_le _, Nat.zero_le _⟩ ?_
          refine g_imul (q := 138) C dX4_claim_137 rfl ?_
          exact g_iret C RT9 dX4_claim_138 (pxi (by rw [clS, if_neg c_6, if_neg c_18]; first | exact absurd c_97 c_115 | exact absurd c_115 c_97 | rw [if_pos c_97] | rw [if_neg c_97, if_pos (Int32.not_le.mp c_104)] | rw [if_neg c_97, if_neg (Int32.not_lt.mpr c_104), if_pos (Int32.not_le.mp c_123)] | rw [if_neg c_97, if_neg (Int32.not_lt.mpr c_104), if_neg (Int32.not_lt.mpr c_123)]))
    · refine g_iload_4 (q := 102) C dX4_claim_100 rfl ?_
      refine g_bipush (v := 120) (q := 104) C dX4_claim_102 rfl (by decide) ?_
      refine g_icmp_ge (tgt := 112) (q := 107) C dX4_claim_104 rfl (by decide) (fun c_104 => ?_) (fun c_104 => ?_)
      · refine g_iload_4 (q := 114) C dX4_claim_112 rfl ?_
        refine g_iconst (v := (-1)) (q := 115) C dX4_claim_114 rfl (by decide) ?_
        refine g_icmp_eq (tgt := 130) (q := 118) C dX4_claim_115 rfl (by decide) (fun c_115 => ?_) (fun c_115 => ?_)
        · refine g_iload_3 (q := 131) C dX4_claim_130 rfl ?_
          refine g_aload_0 (q := 132) C dX4_claim_131 rfl ?_
          refine g_iload_1 (q := 133) C dX4_claim_132 rfl ?_
          refine g_iconst (v := 1) (q := 134) C dX4_claim_133 rfl (by decide) ?_
          refine g_cv2i (q := 137) C cv_X4_70 dX4_claim_134 rfl rfl (IM.d I _ (by decide) (by decide)) (m_X4_get I (k := 1) (by omega) rfl rfl) (by decide) (Nat.le_of_ble_eq_true rfl) ⟨Nat.zero_le _, Nat.zero_le _⟩ ?_
          refine g_imul (q := 138) C dX4_claim_137 rfl ?_
          exact g_iret C RT9 dX4_claim_138 (pxi (by rw [clS, if_neg c_6, if_neg c_18]; first | exact absurd c_97 c_115 | exact absurd c_115 c_97 | rw [if_pos c_97] | rw [if_neg c_97, if_pos (Int32.not_le.mp c_104)] | rw [if_neg c_97, if_neg (Int32.not_lt.mpr c_104), if_pos (Int32.not_le.mp c_123)] | rw [if_neg c_97, if_neg (Int32.not_lt.mpr c_104), if_neg (Int32.not_lt.mpr c_123)]))
        · refine g_iload_4 (q := 120) C dX4_claim_118 rfl ?_
          refine g_sipush (v := 240) (q := 123) C dX4_claim_120 rfl (by decide) ?_
          refine g_icmp_ge (tgt := 130) (q := 126) C dX4_claim_123 rfl (by decide) (fun c_123 => ?_) (fun c_123 => ?_)
          · refine g_iload_3 (q := 131) C dX4_claim_130 rfl ?_
            refine g_aload_0 (q := 132) C dX4_claim_131 rfl ?_
            refine g_iload_1 (q := 133) C dX4_claim_132 rfl ?_
            refine g_iconst (v := 1) (q := 134) C dX4_claim_133 rfl (by decide) ?_
            refine g_cv2i (q := 137) C cv_X4_70 dX4_claim_134 rfl rfl (IM.d I _ (by decide) (by decide)) (m_X4_get I (k := 1) (by omega) rfl rfl) (by decide) (Nat.le_of_ble_eq_true rfl) ⟨Nat.zero_le _, Nat.zero_le _⟩ ?_
            refine g_imul (q := 138) C dX4_claim_137 rfl ?_
            exact g_iret C RT9 dX4_claim_138 (pxi (by rw [clS, if_neg c_6, if_neg c_18]; first | exact absurd c_97 c_115 | exact absurd c_115 c_97 | rw [if_pos c_97] | rw [if_neg c_97, if_pos (Int32.not_le.mp c_104)] | rw [if_neg c_97, if_neg (Int32.not_lt.mpr c_104), if_pos (Int32.not_le.mp c_123)] | rw [if_neg c_97, if_neg (Int32.not_lt.mpr c_104), if_neg (Int32.not_lt.mpr c_123)]))
          · refine g_iload_3 (q := 127) C dX4_claim_126 rfl ?_
            refine g_iconst (v := 2) (q := 128) C dX4_claim_127 rfl (by decide) ?_
            refine g_idiv (q := 129) C dX4_claim_128 rfl (by decide) ?_
            refine g_istore_3 (q := 130) C dX4_claim_129 rfl (by rw [hN]; decide) rfl ?_
            refine g_iload_3 (q := 131) C dX4_claim_130 rfl ?_
            refine g_aload_0 (q := 132) C dX4_claim_131 rfl ?_
            refine g_iload_1 (q := 133) C dX4_claim_132 rfl ?_
            refine g_iconst (v := 1) (q := 134) C dX4_claim_133 rfl (by decide) ?_
            refine g_cv2i (q := 137) C cv_X4_70 dX4_claim_134 rfl rfl (IM.d I _ (by decide) (by decide)) (m_X4_get I (k := 1) (by omega) rfl rfl) (by decide) (Nat.le_of_ble_eq_true rfl) ⟨Nat.zero_le _, Nat.zero_le _⟩ ?_
            refine g_imul (q := 138) C dX4_claim_137 rfl ?_
            exact g_iret C RT9 dX4_claim_138 (pxi (by rw [clS, if_neg c_6, if_neg c_18]; first | exact absurd c_97 c_115 | exact absurd c_115 c_97 | rw [if_pos c_97] | rw [if_neg c_97, if_pos (Int32.not_le.mp c_104)] | rw [if_neg c_97, if_neg (Int32.not_lt.mpr c_104), if_pos (Int32.not_le.mp c_123)] | rw [if_neg c_97, if_neg (Int32.not_lt.mpr c_104), if_neg (Int32.not_lt.mpr c_123)]))
      · refine g_iconst (v := 0) (q := 108) C dX4_claim_107 rfl (by decide) ?_
        refine g_istore_3 (q := 109) C dX4_claim_108 rfl (by rw [hN]; decide) rfl ?_
        refine g_goto (tgt := 130) C dX4_claim_109 (by decide) ?_
        refine g_iload_3 (q := 131) C dX4_claim_130 rfl ?_
        refine g_aload_0 (q := 132) C dX4_claim_131 rfl ?_
        refine g_iload_1 (q := 133) C dX4_claim_132 rfl ?_
        refine g_iconst (v := 1) (q := 134) C dX4_claim_133 rfl (by decide) ?_
        refine g_cv2i (q := 137) C cv_X4_70 dX4_claim_134 rfl rfl (IM.d I _ (by decide) (by decide)) (m_X4_get I (k := 1) (by omega) rfl rfl) (by decide) (Nat.le_of_ble_eq_true rfl) ⟨Nat.zero_le _, Nat.zero_le _⟩ ?_
        refine g_imul (q := 138) C dX4_claim_137 rfl ?_
        exact g_iret C RT9 dX4_claim_138 (pxi (by rw [clS, if_neg c_6, if_neg c_18]; first | exact absurd c_97 c_115 | exact absurd c_115 c_97 | rw [if_pos c_97] | rw [if_neg c_97, if_pos (Int32.not_le.mp c_104)] | rw [if_neg c_97, if_neg (Int32.not_lt.mpr c_104), if_pos (Int32.not_le.mp c_123)] | rw [if_neg c_97, if_neg (Int32.not_lt.mpr c_104), if_neg (Int32.not_lt.mpr c_123)]))
  refine g_aload_0 (q := 1) C dX4_claim_0 rfl ?_
  refine g_iload_1 (q := 2) C dX4_claim_1 rfl ?_
  refine g_iconst (v := 5) (q := 3) C dX4_claim_2 rfl (by decide) ?_
  refine g_cv2i (q := 6) C cv_X4_70 dX4_claim_3 rfl rfl (IM.d I _ (by decide) (by decide)) (m_X4_get I (k := 5) (by omega) rfl rfl) (by decide) (Nat.le_of_ble_eq_true rfl) ⟨Nat.zero_le _, Nat.zero_le _⟩ ?_
  refine g_if_ne (tgt := 11) (q := 9) C dX4_claim_6 rfl (by decide) (fun c_6 => ?_) (fun c_6 => ?_)
  · refine g_aload_0 (q := 12) C dX4_claim_11 rfl ?_
    refine g_iload_1 (q := 13) C dX4_claim_12 rfl ?_
    refine g_iconst (v := 5) (q := 14) C dX4_claim_13 rfl (by decide) ?_
    refine g_cv2i (q := 17) C cv_X4_70 dX4_claim_14 rfl rfl (IM.d I _ (by decide) (by decide)) (m_X4_get I (k := 5) (by omega) rfl rfl) (by decide) (Nat.le_of_ble_eq_true rfl) ⟨Nat.zero_le _, Nat.zero_le _⟩ ?_
    refine g_iconst (v := 1) (q := 18) C dX4_claim_17 rfl (by decide) ?_
    refine g_icmp_ne (tgt := 36) (q := 21) C dX4_claim_18 rfl (by decide) (fun c_18 => ?_) (fun c_18 => ?_)
    · refine g_aload_0 (q := 37) C dX4_claim_36 rfl ?_
      refine g_aload_0 (q := 38) C dX4_claim_37 rfl ?_
      refine g_iload_1 (q := 39) C dX4_claim_38 rfl ?_
      refine g_iconst (v := 0) (q := 40) C dX4_claim_39 rfl (by decide) ?_
      refine g_cv2i (q := 43) C cv_X4_70 dX4_claim_40 rfl rfl (IM.d I _ (by decide) (by decide)) (m_X4_get0 I (by omega) rfl) (by decide) (Nat.le_of_ble_eq_true rfl) ⟨Nat.zero_le _, Nat.zero_le _⟩ ?_
      rw [eo]
      refine g_iconst (v := 5) (q := 44) C dX4_claim_43 rfl (by decide) ?_
      refine g_cv2i (q := 47) C cv_X4_74 dX4_claim_44 rfl rfl (IM.d I _ (by decide) (by decide)) (m_X4_of7 I (k := 5) (by omega) rfl rfl) (by decide) (Nat.le_of_ble_eq_true rfl) ⟨Nat.zero_le _, Nat.zero_le _⟩ ?_
      refine g_istore_2 (q := 48) C dX4_claim_47 rfl (by rw [hN]; decide) rfl ?_
      refine g_iload_2 (q := 49) C dX4_claim_48 rfl ?_
      refine g_sipush (v := 1500) (q := 52) C dX4_claim_49 rfl (by decide) ?_
      refine g_icmp_gt (tgt := 64) (q := 55) C dX4_claim_52 rfl (by decide) (fun c_52 => ?_) (fun c_52 => ?_)
      · refine g_iload_2 (q := 65) C dX4_claim_64 rfl ?_
        refine g_sipush (v := 3500) (q := 68) C dX4_claim_65 rfl (by decide) ?_
        refine g_icmp_gt (tgt := 80) (q := 71) C dX4_claim_68 rfl (by decide) (fun c_68 => ?_) (fun c_68 => ?_)
        · refine g_aload_0 (q := 81) C dX4_claim_80 rfl ?_
          refine g_getc (q := 84) (m := 103) C f_X4_16 dX4_claim_81 rfl rfl (IM.d I _ (by decide) (by decide)) ?_
          refine g_iconst (v := 3) (q := 85) C dX4_claim_84 rfl (by decide) ?_
          refine g_ia (q := 86) C dX4_claim_85 rfl rfl (IM.d I _ (by decide) (by decide)) (show _ = nI 3 from rfl) (by decide) (by decide) ?_
          exact J c_6 c_18 _ _ (by first | rw [bsS, eo, cN_nI (by omega), if_pos (Int32.not_lt.mp c_52)] | rw [bsS, eo, cN_nI (by omega), if_neg (Int32.not_le.mpr c_52), if_pos (Int32.not_lt.mp c_68)] | rw [bsS, eo, cN_nI (by omega), if_neg (Int32.not_le.mpr c_52), if_neg (Int32.not_le.mpr c_68)])
        · refine g_aload_0 (q := 72) C dX4_claim_71 rfl ?_
          refine g_getc (q := 75) (m := 103) C f_X4_16 dX4_claim_72 rfl rfl (IM.d I _ (by decide) (by decide)) ?_
          refine g_iconst (v := 2) (q := 76) C dX4_claim_75 rfl (by decide) ?_
          refine g_ia (q := 77) C dX4_claim_76 rfl rfl (IM.d I _ (by decide) (by decide)) (show _ = nI 2 from rfl) (by decide) (by decide) ?_
          refine g_goto (tgt := 86) C dX4_claim_77 (by decide) ?_
          exact J c_6 c_18 _ _ (by first | rw [bsS, eo, cN_nI (by omega), if_pos (Int32.not_lt.mp c_52)] | rw [bsS, eo, cN_nI (by omega), if_neg (Int32.not_le.mpr c_52), if_pos (Int32.not_lt.mp c_68)] | rw [bsS, eo, cN_nI (by omega), if_neg (Int32.not_le.mpr c_52), if_neg (Int32.not_le.mpr c_68)])
      · refine g_aload_0 (q := 56) C dX4_claim_55 rfl ?_
        refine g_getc (q := 59) (m := 103) C f_X4_16 dX4_claim_56 rfl rfl (IM.d I _ (by decide) (by decide)) ?_
        refine g_iconst (v := 1) (q := 60) C dX4_claim_59 rfl (by decide) ?_
        refine g_ia (q := 61) C dX4_claim_60 rfl rfl (IM.d I _ (by decide) (by decide)) (show _ = nI 1 from rfl) (by decide) (by decide) ?_
        refine g_goto (tgt := 86) C dX4_claim_61 (by decide) ?_
        exact J c_6 c_18 _ _ (by first | rw [bsS, eo, cN_nI (by omega), if_pos (Int32.not_lt.mp c_52)] | rw [bsS, eo, cN_nI (by omega), if_neg (Int32.not_le.mpr c_52), if_pos (Int32.not_lt.mp c_68)] | rw [bsS, eo, cN_nI (by omega), if_neg (Int32.not_le.mpr c_52), if_neg (Int32.not_le.mpr c_68)])
    · refine g_aload_0 (q := 22) C dX4_claim_21 rfl ?_
      refine g_iload_1 (q := 23) C dX4_claim_22 rfl ?_
      refine g_bipush (v := 6) (q := 25) C dX4_claim_23 rfl (by decide) ?_
      refine g_cv2i (q := 28) C cv_X4_70 dX4_claim_25 rfl rfl (IM.d I _ (by decide) (by decide)) (m_X4_get I (k := 6) (by omega) rfl rfl) (by decide) (Nat.le_of_ble_eq_true rfl) ⟨Nat.zero_le _, Nat.zero_le _⟩ ?_
      refine g_aload_0 (q := 29) C dX4_claim_28 rfl ?_
      refine g_iload_1 (q := 30) C dX4_claim_29 rfl ?_
      refine g_iconst (v := 1) (q := 31) C dX4_claim_30 rfl (by decide) ?_
      refine g_cv2i (q := 34) C cv_X4_70 dX4_claim_31 rfl rfl (IM.d I _ (by decide) (by decide)) (m_X4_get I (k := 1) (by omega) rfl rfl) (by decide) (Nat.le_of_ble_eq_true rfl) ⟨Nat.zero_le _, Nat.zero_le _⟩ ?_
      refine g_imul (q := 35) C dX4_claim_34 rfl ?_
      exact g_iret C RT9 dX4_claim_35 (pxi (by rw [clS, if_neg c_6, if_pos c_18]))
  · refine g_iconst (v := 0) (q := 10) C dX4_claim_9 rfl (by decide) ?_
    exact g_iret C RT9 dX4_claim_10 (pxi (by rw [clS, if_pos c_6]))

set_option maxHeartbeats 4000000 in
set_option maxRecDepth 100000 in
theorem m_X4_lateBy (I : IM dm a nF nP) (W : WP nF nP (a 102)) {q : Nat} (hq : q < nP) {x : Int32} (hx : x = nI q) (f1 f2 : Int32) : MT g bs l yX4_lateBy cX4_lateBy 6 (some .int) 2 0 0 [.ref (ad 100), .int x, .int f1, .int f2] ad dm a b r (PX (some (.int (lbI (a 101) (a 103) nF (cN (a 102 (9 * q))) f1 f2))) ad dm a b r) := by
  refine mt_of (by decide) [some (.ref (ad 100)), some (.int x), some (.int f1), some (.int f2), none, none] rfl (Nat.le_of_ble_eq_true rfl) ?_
  intro E hg hbs hl hN C RT9 hcells hslots hname
  have hnF := I.2.2.1
  have hnP := I.2.2.2.2
  subst hx
  obtain ⟨o, ho, eo⟩ := (W q hq).1
  have J : ∀ (z : Nat), z < nF → (¬ a 101 (7 * z + 1) = a 101 (7 * o + 1) → -1 = lbI (a 101) (a 103) nF (cN (a 102 (9 * q))) f1 f2) → (a 101 (7 * z + 1) = a 101 (7 * o + 1) → ltS (a 101) o z = lbI (a 101) (a 103) nF (cN (a 102 (9 * q))) f1 f2) → G E 0 0 ad dm a b r 136 [some (.ref (ad 100)), some (.int (nI q)), some (.int f1), some (.int f2), some (.int (nI o)), some (.int (nI z))] [] := by
    intro z hz hf1 hf2
    refine g_aload_0 (q := 137) C dX4_lateBy_136 rfl ?_
    refine g_iload_5 (q := 139) C dX4_lateBy_137 rfl ?_
    refine g_iconst (v := 1) (q := 140) C dX4_lateBy_139 rfl (by decide) ?_
    refine g_cv2i (q := 143) C cv_X4_74 dX4_lateBy_140 rfl rfl (IM.d I _ (by decide) (by decide)) (m_X4_of7 I (k := 1) (by omega) rfl rfl) (by decide) (Nat.le_of_ble_eq_true rfl) ⟨Nat.zero_le _, Nat.zero_le _⟩ ?_
    refine g_aload_0 (q := 144) C dX4_lateBy_143 rfl ?_
    refine g_iload_4 (q := 146) C dX4_lateBy_144 rfl ?_
    refine g_iconst (v := 1) (q := 147) C dX4_lateBy_146 rfl (by decide) ?_
    refine g_cv2i (q := 150) C cv_X4_74 dX4_lateBy_147 rfl rfl (IM.d I _ (by decide) (by decide)) (m_X4_of7 I (k := 1) (by omega) rfl rfl) (by decide) (Nat.le_of_ble_eq_true rfl) ⟨Nat.zero_le _, Nat.zero_le _⟩ ?_
    refine g_icmp_eq (tgt := 155) (q := 153) C dX4_lateBy_150 rfl (by decide) (fun c_150 => ?_) (fun c_150 => ?_)
    · refine g_iconst (v := 0) (q := 156) C dX4_lateBy_155 rfl (by decide) ?_
      refine g_aload_0 (q := 157) C dX4_lateBy_156 rfl ?_
      refine g_iload_5 (q := 159) C dX4_lateBy_157 rfl ?_
      refine g_iconst (v := 3) (q := 160) C dX4_lateBy_159 rfl (by decide) ?_
      refine g_cv2i (q := 163) C cv_X4_74 dX4_lateBy_160 rfl rfl (IM.d I _ (by decide) (by decide)) (m_X4_of7 I (k := 3) (by omega) rfl rfl) (by decide) (Nat.le_of_ble_eq_true rfl) ⟨Nat.zero_le _, Nat.zero_le _⟩ ?_
      refine g_aload_0 (q := 164) C dX4_lateBy_163 rfl ?_
      refine g_iload_4 (q := 166) C dX4_lateBy_164 rfl ?_
      refine g_iconst (v := 3) (q := 167) C dX4_lateBy_166 rfl (by decide) ?_
      refine g_cv2i (q := 170) C cv_X4_74 dX4_lateBy_167 rfl rfl (IM.d I _ (by decide) (by decide)) (m_X4_of7 I (k := 3) (by omega) rfl rfl) (by decide) (Nat.le_of_ble_eq_true rfl) ⟨Nat.zero_le _, Nat.zero_le _⟩ ?_
      refine g_isub (q := 171) C dX4_lateBy_170 rfl ?_
      refine g_mmax (q := 174) C cm_X4_81 dX4_lateBy_171 rfl (by decide) (Nat.le_of_ble_eq_true rfl) ⟨Nat.zero_le _, Nat.zero_le _⟩ ?_
      exact g_iret C RT9 dX4_lateBy_174 (pxi (hf2 c_150))
    · refine g_iconst (v := (-1)) (q := 154) C dX4_lateBy_153 rfl (by decide) ?_
      exact g_iret C RT9 dX4_lateBy_154 (pxi (hf1 c_150))
  refine g_aload_0 (q := 1) C dX4_lateBy_0 rfl ?_
  refine g_iload_1 (q := 2) C dX4_lateBy_1 rfl ?_
  refine g_iconst (v := 0) (q := 3) C dX4_lateBy_2 rfl (by decide) ?_
  refine g_cv2i (q := 6) C cv_X4_70 dX4_lateBy_3 rfl rfl (IM.d I _ (by decide) (by decide)) (m_X4_get0 I (by omega) rfl) (by decide) (Nat.le_of_ble_eq_true rfl) ⟨Nat.zero_le _, Nat.zero_le _⟩ ?_
  rw [eo]
  refine g_istore_4 (q := 8) C dX4_lateBy_6 rfl (by rw [hN]; decide) rfl ?_
  refine g_aload_0 (q := 9) C dX4_lateBy_8 rfl ?_
  refine g_iload_2 (q := 10) C dX4_lateBy_9 rfl ?_
  refine g_cv1i (q := 13) C cv_X4_66 dX4_lateBy_10 rfl rfl (IM.d I _ (by decide) (by decide)) (m_X4_isFlight I _) (by decide) (Nat.le_of_ble_eq_true rfl) ⟨Nat.zero_le _, Nat.zero_le _⟩ ?_
  refine g_ifeqb (tgt := 65) (q := 16) C dX4_lateBy_13 rfl (by decide) (fun c_13 => ?_) (fun c_13 => ?_)
  · refine g_iconst (v := (-1)) (q := 66) C dX4_lateBy_65 rfl (by decide) ?_
    exact g_iret C RT9 dX4_lateBy_66 (pxi (by rw [eo, cN_nI (by omega)]; first | exact lb_f1 c_13 | exact lb_w1 hi hnF (w1_d c_62) | exact lb_w1 hi hnF (w1_c c_46) | exact lb_w1 hi hnF (w1_b c_30) | exact lb_w1 hi hnF (w1_a c_19 (by omega) (by omega))))
  · obtain ⟨i, hi, rfl⟩ := fok_t c_13 (by omega)
    refine g_iload_2 (q := 17) C dX4_lateBy_16 rfl ?_
    refine g_iload_4 (q := 19) C dX4_lateBy_17 rfl ?_
    refine g_icmp_eq (tgt := 65) (q := 22) C dX4_lateBy_19 rfl (by decide) (fun c_19 => ?_) (fun c_19 => ?_)
    · refine g_iconst (v := (-1)) (q := 66) C dX4_lateBy_65 rfl (by decide) ?_
      exact g_iret C RT9 dX4_lateBy_66 (pxi (by rw [eo, cN_nI (by omega)]; first | exact lb_f1 c_13 | exact lb_w1 hi hnF (w1_d c_62) | exact lb_w1 hi hnF (w1_c c_46) | exact lb_w1 hi hnF (w1_b c_30) | exact lb_w1 hi hnF (w1_a c_19 (by omega) (by omega))))
    · refine g_aload_0 (q := 23) C dX4_lateBy_22 rfl ?_
      refine g_iload_2 (q := 24) C dX4_lateBy_23 rfl ?_
      refine g_bipush (v := 6) (q := 26) C dX4_lateBy_24 rfl (by decide) ?_
      refine g_cv2i (q := 29) C cv_X4_74 dX4_lateBy_26 rfl rfl (IM.d I _ (by decide) (by decide)) (m_X4_of7 I (k := 6) (by omega) rfl rfl) (by decide) (Nat.le_of_ble_eq_true rfl) ⟨Nat.zero_le _, Nat.zero_le _⟩ ?_
      refine g_iconst (v := 1) (q := 30) C dX4_lateBy_29 rfl (by decide) ?_
      refine g_icmp_eq (tgt := 65) (q := 33) C dX4_lateBy_30 rfl (by decide) (fun c_30 => ?_) (fun c_30 => ?_)
      · refine g_iconst (v := (-1)) (q := 66) C dX4_lateBy_65 rfl (by decide) ?_
        exact g_iret C RT9 dX4_lateBy_66 (pxi (by rw [eo, cN_nI (by omega)]; first | exact lb_f1 c_13 | exact lb_w1 hi hnF (w1_d c_62) | exact lb_w1 hi hnF (w1_c c_46) | exact lb_w1 hi hnF (w1_b c_30) | exact lb_w1 hi hnF (w1_a c_19 (by omega) (by omega))))
      · refine g_aload_0 (q := 34) C dX4_lateBy_33 rfl ?_
        refine g_iload_2 (q := 35) C dX4_lateBy_34 rfl ?_
        refine g_iconst (v := 0) (q := 36) C dX4_lateBy_35 rfl (by decide) ?_
        refine g_cv2i (q := 39) C cv_X4_74 dX4_lateBy_36 rfl rfl (IM.d I _ (by decide) (by decide)) (m_X4_of70 I (by omega) rfl) (by decide) (Nat.le_of_ble_eq_true rfl) ⟨Nat.zero_le _, Nat.zero_le _⟩ ?_
        refine g_aload_0 (q := 40) C dX4_lateBy_39 rfl ?_
        refine g_iload_4 (q := 42) C dX4_lateBy_40 rfl ?_
        refine g_iconst (v := 0) (q := 43) C dX4_lateBy_42 rfl (by decide) ?_
        refine g_cv2i (q := 46) C cv_X4_74 dX4_lateBy_43 rfl rfl (IM.d I _ (by decide) (by decide)) (m_X4_of70 I (by omega) rfl) (by decide) (Nat.le_of_ble_eq_true rfl) ⟨Nat.zero_le _, Nat.zero_le _⟩ ?_
        refine g_icmp_ne (tgt := 65) (q := 49) C dX4_lateBy_46 rfl (by decide) (fun c_46 => ?_) (fun c_46 => ?_)
        · refine g_iconst (v := (-1)) (q := 66) C dX4_lateBy_65 rfl (by decide) ?_
          exact g_iret C RT9 dX4_lateBy_66 (pxi (by rw [eo, cN_nI (by omega)]; first | exact lb_f1 c_13 | exact lb_w1 hi hnF (w1_d c_62) | exact lb_w1 hi hnF (w1_c c_46) | exact lb_w1 hi hnF (w1_b c_30) | exact lb_w1 hi hnF (w1_a c_19 (by omega) (by omega))))
        · refine g_aload_0 (q := 50) C dX4_lateBy_49 rfl ?_
          refine g_iload_2 (q := 51) C dX4_lateBy_50 rfl ?_
          refine g_iconst (v := 2) (q := 52) C dX4_lateBy_51 rfl (by decide) ?_
          refine g_cv2i (q := 55) C cv_X4_74 dX4_lateBy_52 rfl rfl (IM.d I _ (by decide) (by decide)) (m_X4_of7 I (k := 2) (by omega) rfl rfl) (by decide) (Nat.le_of_ble_eq_true rfl) ⟨Nat.zero_le _, Nat.zero_le _⟩ ?_
          refine g_aload_0 (q := 56) C dX4_lateBy_55 rfl ?_
          refine g_iload_4 (q := 58) C dX4_lateBy_56 rfl ?_
          refine g_iconst (v := 2) (q := 59) C dX4_lateBy_58 rfl (by decide) ?_
          refine g_cv2i (q := 62) C cv_X4_74 dX4_lateBy_59 rfl rfl (IM.d I _ (by decide) (by decide)) (m_X4_of7 I (k := 2) (by omega) rfl rfl) (by decide) (Nat.le_of_ble_eq_true rfl) ⟨Nat.zero_le _, Nat.zero_le _⟩ ?_
          refine g_icmp_ge (tgt := 67) (q := 65) C dX4_lateBy_62 rfl (by decide) (fun c_62 => ?_) (fun c_62 => ?_)
          · refine g_iload_2 (q := 68) C dX4_lateBy_67 rfl ?_
            refine g_istore_5 (q := 70) C dX4_lateBy_68 rfl (by rw [hN]; decide) rfl ?_
            refine g_iload_3 (q := 71) C dX4_lateBy_70 rfl ?_
            refine g_iconst (v := (-1)) (q := 72) C dX4_lateBy_71 rfl (by decide) ?_
            refine g_icmp_eq (tgt := 136) (q := 75) C dX4_lateBy_72 rfl (by decide) (fun c_72 => ?_) (fun c_72 => ?_)
            · first | exact J j hj (fun z => by rw [eo, cN_nI (by omega)]; exact lb_2n hi hj hnF (w1_t c_19 c_30 c_46 c_62) (w2_t c_91 c_106 c_128) z) (fun z => by rw [eo, cN_nI (by omega)]; exact lb_2y hi hj hnF (w1_t c_19 c_30 c_46 c_62) (w2_t c_91 c_106 c_128) z) | exact J i hi (fun z => by rw [eo, cN_nI (by omega)]; exact lb_1n hi hnF (w1_t c_19 c_30 c_46 c_62) c_72 z) (fun z => by rw [eo, cN_nI (by omega)]; exact lb_1y hi hnF (w1_t c_19 c_30 c_46 c_62) c_72 z)
            · refine g_aload_0 (q := 76) C dX4_lateBy_75 rfl ?_
              refine g_iload_3 (q := 77) C dX4_lateBy_76 rfl ?_
              refine g_cv1i (q := 80) C cv_X4_66 dX4_lateBy_77 rfl rfl (IM.d I _ (by decide) (by decide)) (m_X4_isFlight I _) (by decide) (Nat.le_of_ble_eq_true rfl) ⟨Nat.zero_le _, Nat.zero_le _⟩ ?_
              refine g_ifeqb (tgt := 131) (q := 83) C dX4_lateBy_80 rfl (by decide) (fun c_80 => ?_) (fun c_80 => ?_)
              · refine g_iconst (v := (-1)) (q := 132) C dX4_lateBy_131 rfl (by decide) ?_
                exact g_iret C RT9 dX4_lateBy_132 (pxi (by rw [eo, cN_nI (by omega)]; first | exact lb_f2 hi hnF c_72 c_80 | exact lb_w2 hi hj hnF (w2_d c_128) | exact lb_w2 hi hj hnF (w2_c c_106) | exact lb_w2 hi hj hnF (w2_b c_91)))
              · obtain ⟨j, hj, rfl⟩ := fok_t c_80 (by omega)
                refine g_aload_0 (q := 84) C dX4_lateBy_83 rfl ?_
                refine g_iload_3 (q := 85) C dX4_lateBy_84 rfl ?_
                refine g_bipush (v := 6) (q := 87) C dX4_lateBy_85 rfl (by decide) ?_
                refine g_cv2i (q := 90) C cv_X4_74 dX4_lateBy_87 rfl rfl (IM.d I _ (by decide) (by decide)) (m_X4_of7 I (k := 6) (by omega) rfl rfl) (by decide) (Nat.le_of_ble_eq_true rfl) ⟨Nat.zero_le _, Nat.zero_le _⟩ ?_
                refine g_iconst (v := 1) (q := 91) C dX4_lateBy_90 rfl (by decide) ?_
                refine g_icmp_eq (tgt := 131) (q := 94) C dX4_lateBy_91 rfl (by decide) (fun c_91 => ?_) (fun c_91 => ?_)
                · refine g_iconst (v := (-1)) (q := 132) C dX4_lateBy_131 rfl (by decide) ?_
                  exact g_iret C RT9 dX4_lateBy_132 (pxi (by rw [eo, cN_nI (by omega)]; first | exact lb_f2 hi hnF c_72 c_80 | exact lb_w2 hi hj hnF (w2_d c_128) | exact lb_w2 hi hj hnF (w2_c c_106) | exact lb_w2 hi hj hnF (w2_b c_91)))
                · refine g_aload_0 (q := 95) C dX4_lateBy_94 rfl ?_
                  refine g_iload_3 (q := 96) C dX4_lateBy_95 rfl ?_
                  refine g_iconst (v := 0) (q := 97) C dX4_lateBy_96 rfl (by decide) ?_
                  refine g_cv2i (q := 100) C cv_X4_74 dX4_lateBy_97 rfl rfl (IM.d I _ (by decide) (by decide)) (m_X4_of70 I (by omega) rfl) (by decide) (Nat.le_of_ble_eq_true rfl) ⟨Nat.zero_le _, Nat.zero_le _⟩ ?_
                  refine g_aload_0 (q := 101) C dX4_lateBy_100 rfl ?_
                  refine g_iload_2 (q := 102) C dX4_lateBy_101 rfl ?_
                  refine g_iconst (v := 1) (q := 103) C dX4_lateBy_102 rfl (by decide) ?_
                  refine g_cv2i (q := 106) C cv_X4_74 dX4_lateBy_103 rfl rfl (IM.d I _ (by decide) (by decide)) (m_X4_of7 I (k := 1) (by omega) rfl rfl) (by decide) (Nat.le_of_ble_eq_true rfl) ⟨Nat.zero_le _, Nat.zero_le _⟩ ?_
                  refine g_icmp_ne (tgt := 131) (q := 109) C dX4_lateBy_106 rfl (by decide) (fun c_106 => ?_) (fun c_106 => ?_)
                  · refine g_iconst (v := (-1)) (q := 132) C dX4_lateBy_131 rfl (by decide) ?_
                    exact g_iret C RT9 dX4_lateBy_132 (pxi (by rw [eo, cN_nI (by omega)]; first | exact lb_f2 hi hnF c_72 c_80 | exact lb_w2 hi hj hnF (w2_d c_128) | exact lb_w2 hi hj hnF (w2_c c_106) | exact lb_w2 hi hj hnF (w2_b c_91)))
                  · refine g_aload_0 (q := 110) C dX4_lateBy_109 rfl ?_
                    refine g_iload_3 (q := 111) C dX4_lateBy_110 rfl ?_
                    refine g_iconst (v := 2) (q := 112) C dX4_lateBy_111 rfl (by decide) ?_
                    refine g_cv2i (q := 115) C cv_X4_74 dX4_lateBy_112 rfl rfl (IM.d I _ (by decide) (by decide)) (m_X4_of7 I (k := 2) (by omega) rfl rfl) (by decide) (Nat.le_of_ble_eq_true rfl) ⟨Nat.zero_le _, Nat.zero_le _⟩ ?_
                    refine g_aload_0 (q := 116) C dX4_lateBy_115 rfl ?_
                    refine g_iload_2 (q := 117) C dX4_lateBy_116 rfl ?_
                    refine g_iconst (v := 3) (q := 118) C dX4_lateBy_117 rfl (by decide) ?_
                    refine g_cv2i (q := 121) C cv_X4_74 dX4_lateBy_118 rfl rfl (IM.d I _ (by decide) (by decide)) (m_X4_of7 I (k := 3) (by omega) rfl rfl) (by decide) (Nat.le_of_ble_eq_true rfl) ⟨Nat.zero_le _, Nat.zero_le _⟩ ?_
                    refine g_aload_0 (q := 122) C dX4_lateBy_121 rfl ?_
                    refine g_getc (q := 125) (m := 103) C f_X4_16 dX4_lateBy_122 rfl rfl (IM.d I _ (by decide) (by decide)) ?_
                    refine g_iconst (v := 0) (q := 126) C dX4_lateBy_125 rfl (by decide) ?_
                    refine g_ia (q := 127) C dX4_lateBy_126 rfl rfl (IM.d I _ (by decide) (by decide)) (show _ = nI 0 from rfl) (by decide) (by decide) ?_
                    refine g_iadd (q := 128) C dX4_lateBy_127 rfl ?_
                    refine g_icmp_ge (tgt := 133) (q := 131) C dX4_lateBy_128 rfl (by decide) (fun c_128 => ?_) (fun c_128 => ?_)
                    · refine g_iload_3 (q := 134) C dX4_lateBy_133 rfl ?_
                      refine g_istore_5 (q := 136) C dX4_lateBy_134 rfl (by rw [hN]; decide) rfl ?_
                      first | exact J j hj (fun z => by rw [eo, cN_nI (by omega)]; exact lb_2n hi hj hnF (w1_t c_19 c_30 c_46 c_62) (w2_t c_91 c_106 c_128) z) (fun z => by rw [eo, cN_nI (by omega)]; exact lb_2y hi hj hnF (w1_t c_19 c_30 c_46 c_62) (w2_t c_91 c_106 c_128) z) | exact J i hi (fun z => by rw [eo, cN_nI (by omega)]; exact lb_1n hi hnF (w1_t c_19 c_30 c_46 c_62) c_72 z) (fun z => by rw [eo, cN_nI (by omega)]; exact lb_1y hi hnF (w1_t c_19 c_30 c_46 c_62) c_72 z)
                    · refine g_iconst (v := (-1)) (q := 132) C dX4_lateBy_131 rfl (by decide) ?_
                      exact g_iret C RT9 dX4_lateBy_132 (pxi (by rw [eo, cN_nI (by omega)]; first | exact lb_f2 hi hnF c_72 c_80 | exact lb_w2 hi hj hnF (w2_d c_128) | exact lb_w2 hi hj hnF (w2_c c_106) | exact lb_w2 hi hj hnF (w2_b c_91)))
          · refine g_iconst (v := (-1)) (q := 66) C dX4_lateBy_65 rfl (by decide) ?_
            exact g_iret C RT9 dX4_lateBy_66 (pxi (by rw [eo, cN_nI (by omega)]; first | exact lb_f1 c_13 | exact lb_w1 hi hnF (w1_d c_62) | exact lb_w1 hi hnF (w1_c c_46) | exact lb_w1 hi hnF (w1_b c_30) | exact lb_w1 hi hnF (w1_a c_19 (by omega) (by omega))))

set_option maxHeartbeats 4000000 in
set_option maxRecDepth 100000 in
theorem m_X4_strandedMany (I : IM dm a nF nP) : MT g bs l yX4_strandedMany cX4_strandedMany 3 (some .int) 1 0 0 [.ref (ad 100)] ad dm a b r (PX (some (.int (nI (ctS (stc (a 102)) nP)))) ad dm a b r) := by
  refine mt_of (by decide) [some (.ref (ad 100)), none, none] rfl (Nat.le_of_ble_eq_true rfl) ?_
  intro E hg hbs hl hN C RT9 hcells hslots hname
  have hnF := I.2.2.1
  have hnP := I.2.2.2.2
  have lp : ∀ (k i : Nat) (acc : Nat), i + k = nP → acc = ctS (stc (a 102)) i → G E 0 0 ad dm a b r 4 [some (.ref (ad 100)), some (.int (nI acc)), some (.int (nI i))] [] := by
    intro k
    induction k with
    | zero =>
      intro i acc hi hacc
      refine g_iload_2 (q := 5) C dX4_strandedMany_4 rfl ?_
      refine g_aload_0 (q := 6) C dX4_strandedMany_5 rfl ?_
      refine g_geti (q := 9) C f_X4_63 dX4_strandedMany_6 rfl rfl (IM.d I _ (by decide) (by decide)) ?_
      refine g_icmp_ge (tgt := 41) (q := 12) C dX4_strandedMany_9 rfl (by decide) (fun c_9 => ?_) (fun c_9 => absurd (by rw [I.nP]; exact nI_le (by omega) (by omega)) c_9)
      refine g_iload_1 (q := 42) C dX4_strandedMany_41 rfl ?_
      exact g_iret C RT9 dX4_strandedMany_42 (pxi (by rw [hacc, show i = nP by omega]))
    | succ k ih =>
      intro i acc hi hacc
      refine g_iload_2 (q := 5) C dX4_strandedMany_4 rfl ?_
      refine g_aload_0 (q := 6) C dX4_strandedMany_5 rfl ?_
      refine g_geti (q := 9) C f_X4_63 dX4_strandedMany_6 rfl rfl (IM.d I _ (by decide) (by decide)) ?_
      refine g_icmp_ge (tgt := 41) (q := 12) C dX4_strandedMany_9 rfl (by decide) (fun c_9 => absurd c_9 (by rw [I.nP]; exact nI_ge (by omega) (by omega))) (fun c_9 => ?_)
      refine g_aload_0 (q := 13) C dX4_strandedMany_12 rfl ?_
      refine g_iload_2 (q := 14) C dX4_strandedMany_13 rfl ?_
      refine g_iconst (v := 5) (q := 15) C dX4_strandedMany_14 rfl (by decide) ?_
      refine g_cv2i (q := 18) C cv_X4_70 dX4_strandedMany_15 rfl rfl (IM.d I _ (by decide) (by decide)) (m_X4_get I (k := 5) (by omega) rfl rfl) (by decide) (Nat.le_of_ble_eq_true rfl) ⟨Nat.zero_le _, Nat.zero_le _⟩ ?_
      refine g_if_le (tgt := 35) (q := 21) C dX4_strandedMany_18 rfl (by decide) (fun c_18 => ?_) (fun c_18 => ?_)
      · refine g_iinc_2 (v := nI (i + 1)) (q := 38) C dX4_strandedMany_35 rfl (by rw [hN]; decide) (nI_1 i) ?_
        refine g_goto (tgt := 4) C dX4_strandedMany_38 (by decide) ?_
        exact ih (i + 1) _ (by omega) (by first | (simp [ctS, stc, hacc, c_18, c_29]) | (simp [ctS, stc, hacc, Int32.not_lt.mpr c_18]))
      · refine g_aload_0 (q := 22) C dX4_strandedMany_21 rfl ?_
        refine g_iload_2 (q := 23) C dX4_strandedMany_22 rfl ?_
        refine g_bipush (v := 7) (q := 25) C dX4_strandedMany_23 rfl (by decide) ?_
        refine g_cv2i (q := 28) C cv_X4_70 dX4_strandedMany_25 rfl rfl (IM.d I _ (by decide) (by decide)) (m_X4_get I (k := 7) (by omega) rfl rfl) (by decide) (Nat.le_of_ble_eq_true rfl) ⟨Nat.zero_le _, Nat.zero_le _⟩ ?_
        refine g_iconst (v := (-1)) (q := 29) C dX4_strandedMany_28 rfl (by decide) ?_
        refine g_icmp_ne (tgt := 35) (q := 32) C dX4_strandedMany_29 rfl (by decide) (fun c_29 => ?_) (fun c_29 => ?_)
        · refine g_iinc_2 (v := nI (i + 1)) (q := 38) C dX4_strandedMany_35 rfl (by rw [hN]; decide) (nI_1 i) ?_
          refine g_goto (tgt := 4) C dX4_strandedMany_38 (by decide) ?_
          exact ih (i + 1) _ (by omega) (by first | (simp [ctS, stc, hacc, c_18, c_29]) | (simp [ctS, stc, hacc, Int32.not_lt.mpr c_18]))
        · refine g_iinc_1 (v := nI (acc + 1)) (q := 35) C dX4_strandedMany_32 rfl (by rw [hN]; decide) (nI_1 acc) ?_
          refine g_iinc_2 (v := nI (i + 1)) (q := 38) C dX4_strandedMany_35 rfl (by rw [hN]; decide) (nI_1 i) ?_
          refine g_goto (tgt := 4) C dX4_strandedMany_38 (by decide) ?_
          exact ih (i + 1) _ (by omega) (by first | (simp [ctS, stc, hacc, c_18, c_29]) | (simp [ctS, stc, hacc, Int32.not_lt.mpr c_18]))
  refine g_iconst (v := 0) (q := 1) C dX4_strandedMany_0 rfl (by decide) ?_
  refine g_istore_1 (q := 2) C dX4_strandedMany_1 rfl (by rw [hN]; decide) rfl ?_
  refine g_iconst (v := 0) (q := 3) C dX4_strandedMany_2 rfl (by decide) ?_
  refine g_istore_2 (q := 4) C dX4_strandedMany_3 rfl (by rw [hN]; decide) rfl ?_
  exact lp nP 0 0 (by omega) rfl

set_option maxHeartbeats 4000000 in
set_option maxRecDepth 100000 in
theorem m_X4_stranded (I : IM dm a nF nP) {a1 : Nat → Nat → Int32} (ha : a1 = u2 a 100 5 0) : MT g bs l yX4_stranded cX4_stranded 1 (some .int) 2 0 0 [.ref (ad 100)] ad dm a b r (PX (some (.int (nI (ctS (stc (a1 102)) nP)))) ad dm a1 b r) := by
  refine mt_of (by decide) [some (.ref (ad 100))] rfl (Nat.le_of_ble_eq_true rfl) ?_
  intro E hg hbs hl hN C RT9 hcells hslots hname
  refine g_aload_0 (q := 1) C dX4_stranded_0 rfl ?_
  refine g_iconst (v := 0) (q := 2) C dX4_stranded_1 rfl (by decide) ?_
  refine g_puti (q := 5) C p_X4_52 dX4_stranded_2 rfl rfl (IM.d I _ (by decide) (by decide)) rfl rfl ?_
  rw [← ha]
  have I : IM dm a1 nF nP := by rw [ha]; exact I.th
  refine g_aload_0 (q := 6) C dX4_stranded_5 rfl ?_
  refine g_cv0i (q := 9) C cv_X4_136 dX4_stranded_6 rfl rfl (IM.d I _ (by decide) (by decide)) (m_X4_strandedMany I) (by decide) (Nat.le_of_ble_eq_true rfl) ⟨Nat.zero_le _, Nat.zero_le _⟩ ?_
  exact g_iret C RT9 dX4_stranded_9 (px rfl)

set_option maxHeartbeats 4000000 in
set_option maxRecDepth 100000 in
theorem m_X4_told (I : IM dm a nF nP) {a1 : Nat → Nat → Int32} (ha : a1 = u2 a 100 5 0) (f1 what : Int32) : MT g bs l yX4_told cX4_told 5 (some .int) 3 0 0 [.ref (ad 100), .int f1, .int what] ad dm a b r (PX (some (.int (tdS (a1 101) (a1 102) nF nP f1 what))) ad dm a1 b r) := by
  refine mt_of (by decide) [some (.ref (ad 100)), some (.int f1), some (.int what), none, none] rfl (Nat.le_of_ble_eq_true rfl) ?_
  intro E hg hbs hl hN C RT9 hcells hslots hname
  have hnF := I.2.2.1
  have hnP := I.2.2.2.2
  have lp : IM dm a1 nF nP → what = 4 → fok nF f1 = true → ∀ (k i : Nat) (acc : Int32), i + k = nP → acc = smS (a1 102) (msc (a1 102) f1) i → G E 0 0 ad dm a1 b r 84 [some (.ref (ad 100)), some (.int f1), some (.int what), some (.int acc), some (.int (nI i))] [] := by
    intro I hw c_10
    have lp : ∀ (k i : Nat) (acc : Int32), i + k = nP → acc = smS (a1 102) (msc (a1 102) f1) i → G E 0 0 ad dm a1 b r 84 [some (.ref (ad 100)), some (.int f1), some (.int what), some (.int acc), some (.int (nI i))] [] := by
      intro k
      induction k with
      | zero =>
        intro i acc hi hacc
        refine g_iload_4 (q := 86) C dX4_told_84 rfl ?_
        refine g_aload_0 (q := 87) C dX4_told_86 rfl ?_
        refine g_geti (q := 90) C f_X4_63 dX4_told_87 rfl rfl (IM.d I _ (by decide) (by decide)) ?_
        refine g_icmp_ge (tgt := 141) (q := 93) C dX4_told_90 rfl (by decide) (fun c_90 => ?_) (fun c_90 => absurd (by rw [I.nP]; exact nI_le (by omega) (by omega)) c_90)
        refine g_iload_3 (q := 142) C dX4_told_141 rfl ?_
        exact g_iret C RT9 dX4_told_142 (pxi (by rw [tdS, if_pos c_10]; rw [hw, if_neg (by decide), if_neg (by decide), if_neg (by decide), if_neg (by decide), if_pos rfl, hacc, show i = nP by omega]))
      | succ k ih =>
        intro i acc hi hacc
        refine g_iload_4 (q := 86) C dX4_told_84 rfl ?_
        refine g_aload_0 (q := 87) C dX4_told_86 rfl ?_
        refine g_geti (q := 90) C f_X4_63 dX4_told_87 rfl rfl (IM.d I _ (by decide) (by decide)) ?_
        refine g_icmp_ge (tgt := 141) (q := 93) C dX4_told_90 rfl (by decide) (fun c_90 => absurd c_90 (by rw [I.nP]; exact nI_ge (by omega) (by omega))) (fun c_90 => ?_)
        refine g_aload_0 (q := 94) C dX4_told_93 rfl ?_
        refine g_iload_4 (q := 96) C dX4_told_94 rfl ?_
        refine g_iconst (v := 0) (q := 97) C dX4_told_96 rfl (by decide) ?_
        refine g_cv2i (q := 100) C cv_X4_70 dX4_told_97 rfl rfl (IM.d I _ (by decide) (by decide)) (m_X4_get0 I (by omega) rfl) (by decide) (Nat.le_of_ble_eq_true rfl) ⟨Nat.zero_le _, Nat.zero_le _⟩ ?_
        refine g_iload_1 (q := 101) C dX4_told_100 rfl ?_
        refine g_icmp_ne (tgt := 135) (q := 104) C dX4_told_101 rfl (by decide) (fun c_101 => ?_) (fun c_101 => ?_)
        · refine g_iinc_4 (v := nI (i + 1)) (q := 138) C dX4_told_135 rfl (by rw [hN]; decide) (nI_1 i) ?_
          refine g_goto (tgt := 84) C dX4_told_138 (by decide) ?_
          exact ih (i + 1) _ (by omega) (by first | (simp [smS, msc, hacc, c_101, c_112, c_122]) | (simp [smS, msc, hacc, c_101, c_112]) | (simp [smS, msc, hacc, c_101]))
        · refine g_aload_0 (q := 105) C dX4_told_104 rfl ?_
          refine g_iload_4 (q := 107) C dX4_told_105 rfl ?_
          refine g_iconst (v := 4) (q := 108) C dX4_told_107 rfl (by decide) ?_
          refine g_cv2i (q := 111) C cv_X4_70 dX4_told_108 rfl rfl (IM.d I _ (by decide) (by decide)) (m_X4_get I (k := 4) (by omega) rfl rfl) (by decide) (Nat.le_of_ble_eq_true rfl) ⟨Nat.zero_le _, Nat.zero_le _⟩ ?_
          refine g_iconst (v := 1) (q := 112) C dX4_told_111 rfl (by decide) ?_
          refine g_icmp_ne (tgt := 135) (q := 115) C dX4_told_112 rfl (by decide) (fun c_112 => ?_) (fun c_112 => ?_)
          · refine g_iinc_4 (v := nI (i + 1)) (q := 138) C dX4_told_135 rfl (by rw [hN]; decide) (nI_1 i) ?_
            refine g_goto (tgt := 84) C dX4_told_138 (by decide) ?_
            exact ih (i + 1) _ (by omega) (by first | (simp [smS, msc, hacc, c_101, c_112, c_122]) | (simp [smS, msc, hacc, c_101, c_112]) | (simp [smS, msc, hacc, c_101]))
          · refine g_aload_0 (q := 116) C dX4_told_115 rfl ?_
            refine g_iload_4 (q := 118) C dX4_told_116 rfl ?_
            refine g_iconst (v := 5) (q := 119) C dX4_told_118 rfl (by decide) ?_
            refine g_cv2i (q := 122) C cv_X4_70 dX4_told_119 rfl rfl (IM.d I _ (by decide) (by decide)) (m_X4_get I (k := 5) (by omega) rfl rfl) (by decide) (Nat.le_of_ble_eq_true rfl) ⟨Nat.zero_le _, Nat.zero_le _⟩ ?_
            refine g_if_ne (tgt := 135) (q := 125) C dX4_told_122 rfl (by decide) (fun c_122 => ?_) (fun c_122 => ?_)
            · refine g_iinc_4 (v := nI (i + 1)) (q := 138) C dX4_told_135 rfl (by rw [hN]; decide) (nI_1 i) ?_
              refine g_goto (tgt := 84) C dX4_told_138 (by decide) ?_
              exact ih (i + 1) _ (by omega) (by first | (simp [smS, msc, hacc, c_101, c_112, c_122]) | (simp [smS, msc, hacc, c_101, c_112]) | (simp [smS, msc, hacc, c_101]))
            · refine g_iload_3 (q := 126) C dX4_told_125 rfl ?_
              refine g_aload_0 (q := 127) C dX4_told_126 rfl ?_
              refine g_iload_4 (q := 129) C dX4_told_127 rfl ?_
              refine g_iconst (v := 1) (q := 130) C dX4_told_129 rfl (by decide) ?_
              refine g_cv2i (q := 133) C cv_X4_70 dX4_told_130 rfl rfl (IM.d I _ (by decide) (by decide)) (m_X4_get I (k := 1) (by omega) rfl rfl) (by decide) (Nat.le_of_ble_eq_true rfl) ⟨Nat.zero_le _, Nat.zero_le _⟩ ?_
              refine g_iadd (q := 134) C dX4_told_133 rfl ?_
              refine g_istore_3 (q := 135) C dX4_told_134 rfl (by rw [hN]; decide) rfl ?_
              refine g_iinc_4 (v := nI (i + 1)) (q := 138) C dX4_told_135 rfl (by rw [hN]; decide) (nI_1 i) ?_
              refine g_goto (tgt := 84) C dX4_told_138 (by decide) ?_
              exact ih (i + 1) _ (by omega) (by first | (simp [smS, msc, hacc, c_101, c_112, c_122]) | (simp [smS, msc, hacc, c_101, c_112]) | (simp [smS, msc, hacc, c_101]))
    exact lp
  refine g_aload_0 (q := 1) C dX4_told_0 rfl ?_
  refine g_iconst (v := 0) (q := 2) C dX4_told_1 rfl (by decide) ?_
  refine g_puti (q := 5) C p_X4_52 dX4_told_2 rfl rfl (IM.d I _ (by decide) (by decide)) rfl rfl ?_
  rw [← ha]
  have I : IM dm a1 nF nP := by rw [ha]; exact I.th
  refine g_aload_0 (q := 6) C dX4_told_5 rfl ?_
  refine g_iload_1 (q := 7) C dX4_told_6 rfl ?_
  refine g_cv1i (q := 10) C cv_X4_66 dX4_told_7 rfl rfl (IM.d I _ (by decide) (by decide)) (m_X4_isFlight I _) (by decide) (Nat.le_of_ble_eq_true rfl) ⟨Nat.zero_le _, Nat.zero_le _⟩ ?_
  refine g_ifneb (tgt := 15) (q := 13) C dX4_told_10 rfl (by decide) (fun c_10 => ?_) (fun c_10 => ?_)
  · obtain ⟨f, hf, rfl⟩ := fok_t c_10 (by omega)
    refine g_iload_2 (q := 16) C dX4_told_15 rfl ?_
    by_cases sw_0 : what = 0
    · subst sw_0
      refine g_tableIn (tgt := 52) C dX4_told_16 (by decide) (by decide) rfl (by decide) ?_
      refine g_aload_0 (q := 53) C dX4_told_52 rfl ?_
      refine g_iload_1 (q := 54) C dX4_told_53 rfl ?_
      refine g_cv1i (q := 57) C cv_X4_77 dX4_told_54 rfl rfl (IM.d I _ (by decide) (by decide)) (m_X4_load I _) (by decide) (Nat.le_of_ble_eq_true rfl) ⟨Nat.zero_le _, Nat.zero_le _⟩ ?_
      exact g_iret C RT9 dX4_told_57 (pxi (by rw [tdS, if_pos c_10]; rfl))
    by_cases sw_1 : what = 1
    · subst sw_1
      refine g_tableIn (tgt := 58) C dX4_told_16 (by decide) (by decide) rfl (by decide) ?_
      refine g_aload_0 (q := 59) C dX4_told_58 rfl ?_
      refine g_iload_1 (q := 60) C dX4_told_59 rfl ?_
      refine g_cv1i (q := 63) C cv_X4_86 dX4_told_60 rfl rfl (IM.d I _ (by decide) (by decide)) (m_X4_over I (by assumption) rfl) (by decide) (Nat.le_of_ble_eq_true rfl) ⟨Nat.zero_le _, Nat.zero_le _⟩ ?_
      exact g_iret C RT9 dX4_told_63 (pxi (by rw [tdS, if_pos c_10]; rw [if_neg (by decide), if_pos rfl, cN_nI (by omega)]))
    by_cases sw_2 : what = 2
    · subst sw_2
      refine g_tableIn (tgt := 64) C dX4_told_16 (by decide) (by decide) rfl (by decide) ?_
      refine g_aload_0 (q := 65) C dX4_told_64 rfl ?_
      refine g_iload_1 (q := 66) C dX4_told_65 rfl ?_
      refine g_iconst (v := 4) (q := 67) C dX4_told_66 rfl (by decide) ?_
      refine g_cv2i (q := 70) C cv_X4_74 dX4_told_67 rfl rfl (IM.d I _ (by decide) (by decide)) (m_X4_of7 I (k := 4) (by omega) rfl rfl) (by decide) (Nat.le_of_ble_eq_true rfl) ⟨Nat.zero_le _, Nat.zero_le _⟩ ?_
      exact g_iret C RT9 dX4_told_70 (pxi (by rw [tdS, if_pos c_10]; rw [if_neg (by decide), if_neg (by decide), if_pos rfl, cN_nI (by omega)]))
    by_cases sw_3 : what = 3
    · subst sw_3
      refine g_tableIn (tgt := 71) C dX4_told_16 (by decide) (by decide) rfl (by decide) ?_
      refine g_aload_0 (q := 72) C dX4_told_71 rfl ?_
      refine g_iload_1 (q := 73) C dX4_told_72 rfl ?_
      refine g_bipush (v := 6) (q := 75) C dX4_told_73 rfl (by decide) ?_
      refine g_cv2i (q := 78) C cv_X4_74 dX4_told_75 rfl rfl (IM.d I _ (by decide) (by decide)) (m_X4_of7 I (k := 6) (by omega) rfl rfl) (by decide) (Nat.le_of_ble_eq_true rfl) ⟨Nat.zero_le _, Nat.zero_le _⟩ ?_
      exact g_iret C RT9 dX4_told_78 (pxi (by rw [tdS, if_pos c_10]; rw [if_neg (by decide), if_neg (by decide), if_neg (by decide), if_pos rfl, cN_nI (by omega)]))
    by_cases sw_4 : what = 4
    · subst sw_4
      refine g_tableIn (tgt := 79) C dX4_told_16 (by decide) (by decide) rfl (by decide) ?_
      refine g_iconst (v := 0) (q := 80) C dX4_told_79 rfl (by decide) ?_
      refine g_istore_3 (q := 81) C dX4_told_80 rfl (by rw [hN]; decide) rfl ?_
      refine g_iconst (v := 0) (q := 82) C dX4_told_81 rfl (by decide) ?_
      refine g_istore_4 (q := 84) C dX4_told_82 rfl (by rw [hN]; decide) rfl ?_
      exact lp I rfl c_10 nP 0 0 (by omega) rfl
    refine g_tableOut (tgt := 143) C dX4_told_16 (sw_out5 sw_0 sw_1 sw_2 sw_3 sw_4) (by decide) ?_
    refine g_iconst (v := (-1)) (q := 144) C dX4_told_143 rfl (by decide) ?_
    exact g_iret C RT9 dX4_told_144 (pxi (by rw [tdS, if_pos c_10]; rw [if_neg sw_0, if_neg sw_1, if_neg sw_2, if_neg sw_3, if_neg sw_4]))
  · refine g_iconst (v := (-1)) (q := 14) C dX4_told_13 rfl (by decide) ?_
    exact g_iret C RT9 dX4_told_14 (pxi (by rw [tdS, if_neg (by rw [c_10]; decide)]))

set_option maxHeartbeats 4000000 in
set_option maxRecDepth 100000 in
theorem m_X4_of (I : IM dm a nF nP) {a1 : Nat → Nat → Int32} (ha : a1 = u2 a 100 5 0) (W : WP nF nP (a1 102)) (p1 what : Int32) : MT g bs l yX4_of cX4_of 3 (some .int) 3 0 0 [.ref (ad 100), .int p1, .int what] ad dm a b r (fun v ad0 dm0 a0 b0 r0 => ad0 = ad ∧ dm0 = dm ∧ b0 = b ∧ r0 = r ∧ ((ofK nP p1 what = true ∧ a0 = a1 ∧ v = some (.int (ofS (a1 101) (a1 102) (a1 103) (cN p1) what))) ∨ (ofK nP p1 what = false ∧ a0 = u2 a1 100 5 1 ∧ v = some (.int 0)))) := by
  refine mt_of (by decide) [some (.ref (ad 100)), some (.int p1), some (.int what)] rfl (Nat.le_of_ble_eq_true rfl) ?_
  intro E hg hbs hl hN C RT9 hcells hslots hname
  have hnF := I.2.2.1
  have hnP := I.2.2.2.2
  refine g_aload_0 (q := 1) C dX4_of_0 rfl ?_
  refine g_iconst (v := 0) (q := 2) C dX4_of_1 rfl (by decide) ?_
  refine g_puti (q := 5) C p_X4_52 dX4_of_2 rfl rfl (IM.d I _ (by decide) (by decide)) rfl rfl ?_
  rw [← ha]
  have I : IM dm a1 nF nP := by rw [ha]; exact I.th
  refine g_aload_0 (q := 6) C dX4_of_5 rfl ?_
  refine g_iload_1 (q := 7) C dX4_of_6 rfl ?_
  refine g_cv1i (q := 10) C cv_X4_92 dX4_of_7 rfl rfl (IM.d I _ (by decide) (by decide)) (m_X4_isParty I _) (by decide) (Nat.le_of_ble_eq_true rfl) ⟨Nat.zero_le _, Nat.zero_le _⟩ ?_
  refine g_ifeqb (tgt := 23) (q := 13) C dX4_of_10 rfl (by decide) (fun c_10 => ?_) (fun c_10 => ?_)
  · refine g_aload_0 (q := 24) C dX4_of_23 rfl ?_
    refine g_iconst (v := 1) (q := 25) C dX4_of_24 rfl (by decide) ?_
    refine g_puti (q := 28) C p_X4_52 dX4_of_25 rfl rfl (IM.d I _ (by decide) (by decide)) rfl rfl ?_
    refine g_iconst (v := 0) (q := 29) C dX4_of_28 rfl (by decide) ?_
    exact g_iret C RT9 dX4_of_29 ⟨rfl, rfl, rfl, rfl, Or.inr ⟨by first | (rw [ofK, c_10]; rfl) | (rw [ofK, c_20, Bool.and_false]), rfl, rfl⟩⟩
  · obtain ⟨q, hq, rfl⟩ := fok_t c_10 (by omega)
    refine g_iload_2 (q := 14) C dX4_of_13 rfl ?_
    refine g_iconst (v := 0) (q := 15) C dX4_of_14 rfl (by decide) ?_
    refine g_bipush (v := 7) (q := 17) C dX4_of_15 rfl (by decide) ?_
    refine g_cs3i (q := 20) C cs_X4_59 dX4_of_17 rfl (m_X4_in _ _ _) (by decide) (Nat.le_of_ble_eq_true rfl) ⟨Nat.zero_le _, Nat.zero_le _⟩ ?_
    refine g_ifneb (tgt := 30) (q := 23) C dX4_of_20 rfl (by decide) (fun c_20 => ?_) (fun c_20 => ?_)
    · refine g_iload_2 (q := 31) C dX4_of_30 rfl ?_
      by_cases sw_0 : what = 0
      · subst sw_0
        refine g_tableIn (tgt := 72) C dX4_of_31 (by decide) (by decide) rfl (by decide) ?_
        refine g_aload_0 (q := 73) C dX4_of_72 rfl ?_
        refine g_iload_1 (q := 74) C dX4_of_73 rfl ?_
        refine g_iconst (v := 5) (q := 75) C dX4_of_74 rfl (by decide) ?_
        refine g_cv2i (q := 78) C cv_X4_70 dX4_of_75 rfl rfl (IM.d I _ (by decide) (by decide)) (m_X4_get I (k := 5) (by omega) rfl rfl) (by decide) (Nat.le_of_ble_eq_true rfl) ⟨Nat.zero_le _, Nat.zero_le _⟩ ?_
        exact g_iret C RT9 dX4_of_78 ⟨rfl, rfl, rfl, rfl, (Or.inl ⟨by rw [ofK, c_10, c_20]; rfl, rfl, by rw [ofS, cN_nI (by omega), if_pos rfl]⟩)⟩
      by_cases sw_1 : what = 1
      · subst sw_1
        refine g_tableIn (tgt := 79) C dX4_of_31 (by decide) (by decide) rfl (by decide) ?_
        refine g_aload_0 (q := 80) C dX4_of_79 rfl ?_
        refine g_iload_1 (q := 81) C dX4_of_80 rfl ?_
        refine g_iconst (v := 0) (q := 82) C dX4_of_81 rfl (by decide) ?_
        refine g_cv2i (q := 85) C cv_X4_70 dX4_of_82 rfl rfl (IM.d I _ (by decide) (by decide)) (m_X4_get0 I (by omega) rfl) (by decide) (Nat.le_of_ble_eq_true rfl) ⟨Nat.zero_le _, Nat.zero_le _⟩ ?_
        exact g_iret C RT9 dX4_of_85 ⟨rfl, rfl, rfl, rfl, (Or.inl ⟨by rw [ofK, c_10, c_20]; rfl, rfl, by rw [ofS, cN_nI (by omega), if_neg (by decide), if_pos rfl]⟩)⟩
      by_cases sw_2 : what = 2
      · subst sw_2
        refine g_tableIn (tgt := 86) C dX4_of_31 (by decide) (by decide) rfl (by decide) ?_
        refine g_aload_0 (q := 87) C dX4_of_86 rfl ?_
        refine g_iload_1 (q := 88) C dX4_of_87 rfl ?_
        refine g_iconst (v := 1) (q := 89) C dX4_of_88 rfl (by decide) ?_
        refine g_cv2i (q := 92) C cv_X4_70 dX4_of_89 rfl rfl (IM.d I _ (by decide) (by decide)) (m_X4_get I (k := 1) (by omega) rfl rfl) (by decide) (Nat.le_of_ble_eq_true rfl) ⟨Nat.zero_le _, Nat.zero_le _⟩ ?_
        exact g_iret C RT9 dX4_of_92 ⟨rfl, rfl, rfl, rfl, (Or.inl ⟨by rw [ofK, c_10, c_20]; rfl, rfl, by rw [ofS, cN_nI (by omega), if_neg (by decide), if_neg (by decide), if_pos rfl]⟩)⟩
      by_cases sw_3 : what = 3
      · subst sw_3
        refine g_tableIn (tgt := 93) C dX4_of_31 (by decide) (by decide) rfl (by decide) ?_
        refine g_aload_0 (q := 94) C dX4_of_93 rfl ?_
        refine g_iload_1 (q := 95) C dX4_of_94 rfl ?_
        refine g_bipush (v := 6) (q := 97) C dX4_of_95 rfl (by decide) ?_
        refine g_cv2i (q := 100) C cv_X4_70 dX4_of_97 rfl rfl (IM.d I _ (by decide) (by decide)) (m_X4_get I (k := 6) (by omega) rfl rfl) (by decide) (Nat.le_of_ble_eq_true rfl) ⟨Nat.zero_le _, Nat.zero_le _⟩ ?_
        exact g_iret C RT9 dX4_of_100 ⟨rfl, rfl, rfl, rfl, (Or.inl ⟨by rw [ofK, c_10, c_20]; rfl, rfl, by rw [ofS, cN_nI (by omega), if_neg (by decide), if_neg (by decide), if_neg (by decide), if_pos rfl]⟩)⟩
      by_cases sw_4 : what = 4
      · subst sw_4
        refine g_tableIn (tgt := 101) C dX4_of_31 (by decide) (by decide) rfl (by decide) ?_
        refine g_aload_0 (q := 102) C dX4_of_101 rfl ?_
        refine g_iload_1 (q := 103) C dX4_of_102 rfl ?_
        refine g_bipush (v := 7) (q := 105) C dX4_of_103 rfl (by decide) ?_
        refine g_cv2i (q := 108) C cv_X4_70 dX4_of_105 rfl rfl (IM.d I _ (by decide) (by decide)) (m_X4_get I (k := 7) (by omega) rfl rfl) (by decide) (Nat.le_of_ble_eq_true rfl) ⟨Nat.zero_le _, Nat.zero_le _⟩ ?_
        exact g_iret C RT9 dX4_of_108 ⟨rfl, rfl, rfl, rfl, (Or.inl ⟨by rw [ofK, c_10, c_20]; rfl, rfl, by rw [ofS, cN_nI (by omega), if_neg (by decide), if_neg (by decide), if_neg (by decide), if_neg (by decide), if_pos rfl]⟩)⟩
      by_cases sw_5 : what = 5
      · subst sw_5
        refine g_tableIn (tgt := 109) C dX4_of_31 (by decide) (by decide) rfl (by decide) ?_
        refine g_aload_0 (q := 110) C dX4_of_109 rfl ?_
        refine g_iload_1 (q := 111) C dX4_of_110 rfl ?_
        refine g_bipush (v := 8) (q := 113) C dX4_of_111 rfl (by decide) ?_
        refine g_cv2i (q := 116) C cv_X4_70 dX4_of_113 rfl rfl (IM.d I _ (by decide) (by decide)) (m_X4_get I (k := 8) (by omega) rfl rfl) (by decide) (Nat.le_of_ble_eq_true rfl) ⟨Nat.zero_le _, Nat.zero_le _⟩ ?_
        exact g_iret C RT9 dX4_of_116 ⟨rfl, rfl, rfl, rfl, (Or.inl ⟨by rw [ofK, c_10, c_20]; rfl, rfl, by rw [ofS, cN_nI (by omega), if_neg (by decide), if_neg (by decide), if_neg (by decide), if_neg (by decide), if_neg (by decide), if_pos rfl]⟩)⟩
      by_cases sw_6 : what = 6
      · subst sw_6
        refine g_tableIn (tgt := 117) C dX4_of_31 (by decide) (by decide) rfl (by decide) ?_
        refine g_aload_0 (q := 118) C dX4_of_117 rfl ?_
        refine g_iload_1 (q := 119) C dX4_of_118 rfl ?_
        refine g_cv1i (q := 122) C cv_X4_89 dX4_of_119 rfl rfl (IM.d I _ (by decide) (by decide)) (m_X4_lateOf I W (by assumption) rfl) (by decide) (Nat.le_of_ble_eq_true rfl) ⟨Nat.zero_le _, Nat.zero_le _⟩ ?_
        exact g_iret C RT9 dX4_of_122 ⟨rfl, rfl, rfl, rfl, (Or.inl ⟨by rw [ofK, c_10, c_20]; rfl, rfl, by rw [ofS, cN_nI (by omega), if_neg (by decide), if_neg (by decide), if_neg (by decide), if_neg (by decide), if_neg (by decide), if_neg (by decide), if_pos rfl]⟩)⟩
      refine g_tableOut (tgt := 123) C dX4_of_31 (sw_out7 sw_0 sw_1 sw_2 sw_3 sw_4 sw_5 sw_6) (by decide) ?_
      refine g_aload_0 (q := 124) C dX4_of_123 rfl ?_
      refine g_iload_1 (q := 125) C dX4_of_124 rfl ?_
      refine g_cv1i (q := 128) C cv_X4_95 dX4_of_125 rfl rfl (IM.d I _ (by decide) (by decide)) (m_X4_claim I W (by assumption) rfl) (by decide) (Nat.le_of_ble_eq_true rfl) ⟨Nat.zero_le _, Nat.zero_le _⟩ ?_
      exact g_iret C RT9 dX4_of_128 ⟨rfl, rfl, rfl, rfl, (Or.inl ⟨by rw [ofK, c_10, c_20]; rfl, rfl, by rw [ofS, cN_nI (by omega), if_neg sw_0, if_neg sw_1, if_neg sw_2, if_neg sw_3, if_neg sw_4, if_neg sw_5, if_neg sw_6]⟩)⟩
    · refine g_aload_0 (q := 24) C dX4_of_23 rfl ?_
      refine g_iconst (v := 1) (q := 25) C dX4_of_24 rfl (by decide) ?_
      refine g_puti (q := 28) C p_X4_52 dX4_of_25 rfl rfl (IM.d I _ (by decide) (by decide)) rfl rfl ?_
      refine g_iconst (v := 0) (q := 29) C dX4_of_28 rfl (by decide) ?_
      exact g_iret C RT9 dX4_of_29 ⟨rfl, rfl, rfl, rfl, Or.inr ⟨by first | (rw [ofK, c_10]; rfl) | (rw [ofK, c_20, Bool.and_false]), rfl, rfl⟩⟩

set_option maxHeartbeats 4000000 in
set_option maxRecDepth 100000 in
theorem m_X4_late (I : IM dm a nF nP) {a1 : Nat → Nat → Int32} (ha : a1 = u2 a 100 5 0) (W : WP nF nP (a1 102)) (p1 f1 f2 : Int32) : MT g bs l yX4_late cX4_late 4 (some .int) 3 0 0 [.ref (ad 100), .int p1, .int f1, .int f2] ad dm a b r (PX (some (.int (if fok nP p1 = true then lbI (a1 101) (a1 103) nF (cN (a1 102 (9 * cN p1))) f1 f2 else -1))) ad dm a1 b r) := by
  refine mt_of (by decide) [some (.ref (ad 100)), some (.int p1), some (.int f1), some (.int f2)] rfl (Nat.le_of_ble_eq_true rfl) ?_
  intro E hg hbs hl hN C RT9 hcells hslots hname
  have hnF := I.2.2.1
  have hnP := I.2.2.2.2
  refine g_aload_0 (q := 1) C dX4_late_0 rfl ?_
  refine g_iconst (v := 0) (q := 2) C dX4_late_1 rfl (by decide) ?_
  refine g_puti (q := 5) C p_X4_52 dX4_late_2 rfl rfl (IM.d I _ (by decide) (by decide)) rfl rfl ?_
  rw [← ha]
  have I : IM dm a1 nF nP := by rw [ha]; exact I.th
  refine g_aload_0 (q := 6) C dX4_late_5 rfl ?_
  refine g_iload_1 (q := 7) C dX4_late_6 rfl ?_
  refine g_cv1i (q := 10) C cv_X4_92 dX4_late_7 rfl rfl (IM.d I _ (by decide) (by decide)) (m_X4_isParty I _) (by decide) (Nat.le_of_ble_eq_true rfl) ⟨Nat.zero_le _, Nat.zero_le _⟩ ?_
  refine g_ifeqb (tgt := 23) (q := 13) C dX4_late_10 rfl (by decide) (fun c_10 => ?_) (fun c_10 => ?_)
  · refine g_iconst (v := (-1)) (q := 24) C dX4_late_23 rfl (by decide) ?_
    exact g_iret C RT9 dX4_late_24 (pxi (by first | (rw [if_pos c_10, cN_nI (by omega)]) | (rw [if_neg (by rw [c_10]; decide)])))
  · obtain ⟨q, hq, rfl⟩ := fok_t c_10 (by omega)
    refine g_aload_0 (q := 14) C dX4_late_13 rfl ?_
    refine g_iload_1 (q := 15) C dX4_late_14 rfl ?_
    refine g_iload_2 (q := 16) C dX4_late_15 rfl ?_
    refine g_iload_3 (q := 17) C dX4_late_16 rfl ?_
    refine g_cv3i (q := 20) C cv_X4_114 dX4_late_17 rfl rfl (IM.d I _ (by decide) (by decide)) (m_X4_lateBy I W (by assumption) rfl _ _) (by decide) (Nat.le_of_ble_eq_true rfl) ⟨Nat.zero_le _, Nat.zero_le _⟩ ?_
    refine g_goto (tgt := 24) C dX4_late_20 (by decide) ?_
    exact g_iret C RT9 dX4_late_24 (pxi (by first | (rw [if_pos c_10, cN_nI (by omega)]) | (rw [if_neg (by rw [c_10]; decide)])))

set_option maxHeartbeats 4000000 in
set_option maxRecDepth 100000 in
theorem m_X4_off (I : IM dm a nF nP) {a1 : Nat → Nat → Int32} (ha : a1 = u2 a 100 5 0) (f1 z : Int32) : MT g bs l yX4_off cX4_off 3 (some .boolean) 2 0 0 [.ref (ad 100), .int f1, .int z] ad dm a b r (fun v ad0 dm0 a0 b0 r0 => ad0 = ad ∧ dm0 = dm ∧ b0 = b ∧ r0 = r ∧ ((fok nF f1 = true ∧ a0 = u2 a1 101 (7 * cN f1 + 6) (if z = 0 then 0 else 1) ∧ v = some (.int 1)) ∨ (fok nF f1 = false ∧ a0 = a1 ∧ v = some (.int 0)))) := by
  refine mt_of (by decide) [some (.ref (ad 100)), some (.int f1), some (.int z)] rfl (Nat.le_of_ble_eq_true rfl) ?_
  intro E hg hbs hl hN C RT9 hcells hslots hname
  have hnF := I.2.2.1
  have hnP := I.2.2.2.2
  refine g_aload_0 (q := 1) C dX4_off_0 rfl ?_
  refine g_iconst (v := 0) (q := 2) C dX4_off_1 rfl (by decide) ?_
  refine g_puti (q := 5) C p_X4_52 dX4_off_2 rfl rfl (IM.d I _ (by decide) (by decide)) rfl rfl ?_
  rw [← ha]
  have I : IM dm a1 nF nP := by rw [ha]; exact I.th
  refine g_aload_0 (q := 6) C dX4_off_5 rfl ?_
  refine g_iload_1 (q := 7) C dX4_off_6 rfl ?_
  refine g_cv1i (q := 10) C cv_X4_66 dX4_off_7 rfl rfl (IM.d I _ (by decide) (by decide)) (m_X4_isFlight I _) (by decide) (Nat.le_of_ble_eq_true rfl) ⟨Nat.zero_le _, Nat.zero_le _⟩ ?_
  refine g_ifneb (tgt := 15) (q := 13) C dX4_off_10 rfl (by decide) (fun c_10 => ?_) (fun c_10 => ?_)
  · obtain ⟨f, hf, rfl⟩ := fok_t c_10 (by omega)
    refine g_aload_0 (q := 16) C dX4_off_15 rfl ?_
    refine g_getc (q := 19) (m := 101) C f_X4_9 dX4_off_16 rfl rfl (IM.d I _ (by decide) (by decide)) ?_
    refine g_bipush (v := 7) (q := 21) C dX4_off_19 rfl (by decide) ?_
    refine g_iload_1 (q := 22) C dX4_off_21 rfl ?_
    refine g_imul (q := 23) C dX4_off_22 rfl ?_
    refine g_bipush (v := 6) (q := 25) C dX4_off_23 rfl (by decide) ?_
    refine g_iadd (q := 26) C dX4_off_25 rfl ?_
    refine g_iload_2 (q := 27) C dX4_off_26 rfl ?_
    refine g_if_eq (tgt := 34) (q := 30) C dX4_off_27 rfl (by decide) (fun c_27 => ?_) (fun c_27 => ?_)
    · refine g_iconst (v := 0) (q := 35) C dX4_off_34 rfl (by decide) ?_
      refine g_iast (q := 36) C dX4_off_35 rfl rfl (IM.d I _ (by decide) (by decide)) (ix7 f 6) (by omega) (by decide) ?_
      refine g_iconst (v := 1) (q := 37) C dX4_off_36 rfl (by decide) ?_
      exact g_zret C RT9 dX4_off_37 rfl ⟨rfl, rfl, rfl, rfl, Or.inl ⟨c_10, by rw [cN_nI (by omega)]; first | rw [if_pos c_27] | rw [if_neg c_27], rfl⟩⟩
    · refine g_iconst (v := 1) (q := 31) C dX4_off_30 rfl (by decide) ?_
      refine g_goto (tgt := 35) C dX4_off_31 (by decide) ?_
      refine g_iast (q := 36) C dX4_off_35 rfl rfl (IM.d I _ (by decide) (by decide)) (ix7 f 6) (by omega) (by decide) ?_
      refine g_iconst (v := 1) (q := 37) C dX4_off_36 rfl (by decide) ?_
      exact g_zret C RT9 dX4_off_37 rfl ⟨rfl, rfl, rfl, rfl, Or.inl ⟨c_10, by rw [cN_nI (by omega)]; first | rw [if_pos c_27] | rw [if_neg c_27], rfl⟩⟩
  · refine g_iconst (v := 0) (q := 14) C dX4_off_13 rfl (by decide) ?_
    exact g_zret C RT9 dX4_off_14 rfl ⟨rfl, rfl, rfl, rfl, Or.inr ⟨c_10, rfl, rfl⟩⟩

set_option maxHeartbeats 4000000 in
set_option maxRecDepth 100000 in
theorem m_X4_set (I : IM dm a nF nP) {a1 : Nat → Nat → Int32} (ha : a1 = u2 a 100 5 0) (what z : Int32) : MT g bs l yX4_set cX4_set 4 (some .int) 2 0 0 [.ref (ad 100), .int what, .int z] ad dm a b r (fun v ad0 dm0 a0 b0 r0 => ad0 = ad ∧ dm0 = dm ∧ b0 = b ∧ r0 = r ∧ ((seK what z = true ∧ a0 = u2 a1 103 (cN what) z ∧ v = some (.int (a1 103 (cN what)))) ∨ (seK what z = false ∧ a0 = a1 ∧ v = some (.int (-1))))) := by
  refine mt_of (by decide) [some (.ref (ad 100)), some (.int what), some (.int z), none] rfl (Nat.le_of_ble_eq_true rfl) ?_
  intro E hg hbs hl hN C RT9 hcells hslots hname
  have hnF := I.2.2.1
  have hnP := I.2.2.2.2
  refine g_aload_0 (q := 1) C dX4_set_0 rfl ?_
  refine g_iconst (v := 0) (q := 2) C dX4_set_1 rfl (by decide) ?_
  refine g_puti (q := 5) C p_X4_52 dX4_set_2 rfl rfl (IM.d I _ (by decide) (by decide)) rfl rfl ?_
  rw [← ha]
  have I : IM dm a1 nF nP := by rw [ha]; exact I.th
  refine g_iload_1 (q := 6) C dX4_set_5 rfl ?_
  refine g_iconst (v := 0) (q := 7) C dX4_set_6 rfl (by decide) ?_
  refine g_iconst (v := 3) (q := 8) C dX4_set_7 rfl (by decide) ?_
  refine g_cs3i (q := 11) C cs_X4_59 dX4_set_8 rfl (m_X4_in _ _ _) (by decide) (Nat.le_of_ble_eq_true rfl) ⟨Nat.zero_le _, Nat.zero_le _⟩ ?_
  refine g_ifeqb (tgt := 35) (q := 14) C dX4_set_11 rfl (by decide) (fun c_11 => ?_) (fun c_11 => ?_)
  · refine g_iconst (v := (-1)) (q := 36) C dX4_set_35 rfl (by decide) ?_
    exact g_iret C RT9 dX4_set_36 ⟨rfl, rfl, rfl, rfl, Or.inr ⟨by first | (rw [seK, c_11]; rfl) | (rw [seK, c_11, if_pos c_17, c_32]; rfl) | (rw [seK, c_11, if_neg c_17, c_32]; rfl), rfl, rfl⟩⟩
  · refine g_iload_2 (q := 15) C dX4_set_14 rfl ?_
    refine g_iconst (v := 0) (q := 16) C dX4_set_15 rfl (by decide) ?_
    refine g_iload_1 (q := 17) C dX4_set_16 rfl ?_
    refine g_if_ne (tgt := 26) (q := 20) C dX4_set_17 rfl (by decide) (fun c_17 => ?_) (fun c_17 => ?_)
    · refine g_sipush (v := 9999) (q := 29) C dX4_set_26 rfl (by decide) ?_
      refine g_cs3i (q := 32) C cs_X4_59 dX4_set_29 rfl (m_X4_in _ _ _) (by decide) (Nat.le_of_ble_eq_true rfl) ⟨Nat.zero_le _, Nat.zero_le _⟩ ?_
      refine g_ifneb (tgt := 37) (q := 35) C dX4_set_32 rfl (by decide) (fun c_32 => ?_) (fun c_32 => ?_)
      · obtain ⟨n, hn, rfl⟩ : ∃ n : Nat, n < 4 ∧ what = nI n := fok_t (n := 4) c_11 (by decide)
        refine g_aload_0 (q := 38) C dX4_set_37 rfl ?_
        refine g_getc (q := 41) (m := 103) C f_X4_16 dX4_set_38 rfl rfl (IM.d I _ (by decide) (by decide)) ?_
        refine g_iload_1 (q := 42) C dX4_set_41 rfl ?_
        refine g_ia (q := 43) C dX4_set_42 rfl rfl (IM.d I _ (by decide) (by decide)) rfl (by omega) (by decide) ?_
        refine g_istore_3 (q := 44) C dX4_set_43 rfl (by rw [hN]; decide) rfl ?_
        refine g_aload_0 (q := 45) C dX4_set_44 rfl ?_
        refine g_getc (q := 48) (m := 103) C f_X4_16 dX4_set_45 rfl rfl (IM.d I _ (by decide) (by decide)) ?_
        refine g_iload_1 (q := 49) C dX4_set_48 rfl ?_
        refine g_iload_2 (q := 50) C dX4_set_49 rfl ?_
        refine g_iast (q := 51) C dX4_set_50 rfl rfl (IM.d I _ (by decide) (by decide)) rfl (by omega) (by decide) ?_
        refine g_iload_3 (q := 52) C dX4_set_51 rfl ?_
        exact g_iret C RT9 dX4_set_52 ⟨rfl, rfl, rfl, rfl, Or.inl ⟨by first | (rw [seK, c_11, if_pos c_17, c_32]; rfl) | (rw [seK, c_11, if_neg c_17, c_32]; rfl), by rw [cN_nI (by omega)], by rw [cN_nI (by omega)]⟩⟩
      · refine g_iconst (v := (-1)) (q := 36) C dX4_set_35 rfl (by decide) ?_
        exact g_iret C RT9 dX4_set_36 ⟨rfl, rfl, rfl, rfl, Or.inr ⟨by first | (rw [seK, c_11]; rfl) | (rw [seK, c_11, if_pos c_17, c_32]; rfl) | (rw [seK, c_11, if_neg c_17, c_32]; rfl), rfl, rfl⟩⟩
    · refine g_sipush (v := 300) (q := 23) C dX4_set_20 rfl (by decide) ?_
      refine g_goto (tgt := 29) C dX4_set_23 (by decide) ?_
      refine g_cs3i (q := 32) C cs_X4_59 dX4_set_29 rfl (m_X4_in _ _ _) (by decide) (Nat.le_of_ble_eq_true rfl) ⟨Nat.zero_le _, Nat.zero_le _⟩ ?_
      refine g_ifneb (tgt := 37) (q := 35) C dX4_set_32 rfl (by decide) (fun c_32 => ?_) (fun c_32 => ?_)
      · obtain ⟨n, hn, rfl⟩ : ∃ n : Nat, n < 4 ∧ what = nI n := fok_t (n := 4) c_11 (by decide)
        refine g_aload_0 (q := 38) C dX4_set_37 rfl ?_
        refine g_getc (q := 41) (m := 103) C f_X4_16 dX4_set_38 rfl rfl (IM.d I _ (by decide) (by decide)) ?_
        refine g_iload_1 (q := 42) C dX4_set_41 rfl ?_
        refine g_ia (q := 43) C dX4_set_42 rfl rfl (IM.d I _ (by decide) (by decide)) rfl (by omega) (by decide) ?_
        refine g_istore_3 (q := 44) C dX4_set_43 rfl (by rw [hN]; decide) rfl ?_
        refine g_aload_0 (q := 45) C dX4_set_44 rfl ?_
        refine g_getc (q := 48) (m := 103) C f_X4_16 dX4_set_45 rfl rfl (IM.d I _ (by decide) (by decide)) ?_
        refine g_iload_1 (q := 49) C dX4_set_48 rfl ?_
        refine g_iload_2 (q := 50) C dX4_set_49 rfl ?_
        refine g_iast (q := 51) C dX4_set_50 rfl rfl (IM.d I _ (by decide) (by decide)) rfl (by omega) (by decide) ?_
        refine g_iload_3 (q := 52) C dX4_set_51 rfl ?_
        exact g_iret C RT9 dX4_set_52 ⟨rfl, rfl, rfl, rfl, Or.inl ⟨by first | (rw [seK, c_11, if_pos c_17, c_32]; rfl) | (rw [seK, c_11, if_neg c_17, c_32]; rfl), by rw [cN_nI (by omega)], by rw [cN_nI (by omega)]⟩⟩
      · refine g_iconst (v := (-1)) (q := 36) C dX4_set_35 rfl (by decide) ?_
        exact g_iret C RT9 dX4_set_36 ⟨rfl, rfl, rfl, rfl, Or.inr ⟨by first | (rw [seK, c_11]; rfl) | (rw [seK, c_11, if_pos c_17, c_32]; rfl) | (rw [seK, c_11, if_neg c_17, c_32]; rfl), rfl, rfl⟩⟩

end M11
end
section
section M12
variable {g : GM} {bs : Nat} {l : Launch} {ad : Nat → Nat} {dm : Nat → Bool} {a : Nat → Nat → Int32} {b : Nat → Nat → Int64} {r : Nat → Nat → Option Nat} {nF nP : Nat}
set_option maxHeartbeats 4000000 in
set_option maxRecDepth 100000 in
theorem m_X4_give (I : IM dm a nF nP) {q : Nat} (hq : q < nP) {x : Int32} (hx : x = nI q) (v : Int32) : MT g bs l yX4_give cX4_give 3 none 1 0 0 [.ref (ad 100), .int x, .int v] ad dm a b r (PX none ad dm (up1 a 102 (gvP (a 102) q 1 v)) b r) := by
  refine mt_of (by decide) [some (.ref (ad 100)), some (.int x), some (.int v)] rfl (Nat.le_of_ble_eq_true rfl) ?_
  intro E hg hbs hl hN C RT9 hcells hslots hname
  have hnF := I.2.2.1
  have hnP := I.2.2.2.2
  subst hx
  refine g_aload_0 (q := 1) C dX4_give_0 rfl ?_
  refine g_iload_1 (q := 2) C dX4_give_1 rfl ?_
  refine g_iconst (v := 5) (q := 3) C dX4_give_2 rfl (by decide) ?_
  refine g_iconst (v := 1) (q := 4) C dX4_give_3 rfl (by decide) ?_
  refine g_cv3v (q := 7) C cv_X4_106 dX4_give_4 rfl rfl (IM.d I _ (by decide) (by decide)) (m_X4_put I (k := 5) (by omega) rfl rfl _) (by decide) (Nat.le_of_ble_eq_true rfl) ⟨Nat.zero_le _, Nat.zero_le _⟩ ?_
  have I := I.u (n := 102) (k := 9 * q + 5) (x := 1) (by decide)
  refine g_aload_0 (q := 8) C dX4_give_7 rfl ?_
  refine g_iload_1 (q := 9) C dX4_give_8 rfl ?_
  refine g_bipush (v := 6) (q := 11) C dX4_give_9 rfl (by decide) ?_
  refine g_iload_2 (q := 12) C dX4_give_11 rfl ?_
  refine g_cv3v (q := 15) C cv_X4_106 dX4_give_12 rfl rfl (IM.d I _ (by decide) (by decide)) (m_X4_put I (k := 6) (by omega) rfl rfl _) (by decide) (Nat.le_of_ble_eq_true rfl) ⟨Nat.zero_le _, Nat.zero_le _⟩ ?_
  have I := I.u (n := 102) (k := 9 * q + 6) (x := v) (by decide)
  refine g_aload_0 (q := 16) C dX4_give_15 rfl ?_
  refine g_iload_1 (q := 17) C dX4_give_16 rfl ?_
  refine g_bipush (v := 7) (q := 19) C dX4_give_17 rfl (by decide) ?_
  refine g_iconst (v := (-1)) (q := 20) C dX4_give_19 rfl (by decide) ?_
  refine g_cv3v (q := 23) C cv_X4_106 dX4_give_20 rfl rfl (IM.d I _ (by decide) (by decide)) (m_X4_put I (k := 7) (by omega) rfl rfl _) (by decide) (Nat.le_of_ble_eq_true rfl) ⟨Nat.zero_le _, Nat.zero_le _⟩ ?_
  have I := I.u (n := 102) (k := 9 * q + 7) (x := -1) (by decide)
  refine g_aload_0 (q := 24) C dX4_give_23 rfl ?_
  refine g_iload_1 (q := 25) C dX4_give_24 rfl ?_
  refine g_bipush (v := 8) (q := 27) C dX4_give_25 rfl (by decide) ?_
  refine g_iconst (v := (-1)) (q := 28) C dX4_give_27 rfl (by decide) ?_
  refine g_cv3v (q := 31) C cv_X4_106 dX4_give_28 rfl rfl (IM.d I _ (by decide) (by decide)) (m_X4_put I (k := 8) (by omega) rfl rfl _) (by decide) (Nat.le_of_ble_eq_true rfl) ⟨Nat.zero_le _, Nat.zero_le _⟩ ?_
  exact g_vret C RT9 dX4_give_31 ⟨rfl, rfl, rfl, by rw [show u2 a 102 (9 * q + 5) 1 = up1 a 102 _ from u2_up', u2_up, u2_up, u2_up]; rfl, rfl, rfl⟩

theorem in26 {w : Int32} (h : inR w 2 6 = true) : w = 2 ∨ w = 3 ∨ w = 4 ∨ w = 5 ∨ w = 6 := by
  obtain ⟨h1, h2⟩ := inR_t h
  rw [i_le] at h1 h2
  have e2 : (2 : Int32).toInt = 2 := rfl
  have e6 : (6 : Int32).toInt = 6 := rfl
  simp only [i_eq]
  rw [show (2 : Int32).toInt = 2 from rfl, show (3 : Int32).toInt = 3 from rfl, show (4 : Int32).toInt = 4 from rfl, show (5 : Int32).toInt = 5 from rfl, show (6 : Int32).toInt = 6 from rfl]
  omega
set_option maxHeartbeats 4000000 in
set_option maxRecDepth 100000 in
theorem m_X4_count (I : IM dm a nF nP) {a1 : Nat → Nat → Int32} (ha : a1 = u2 a 100 5 0) (W : WP nF nP (a1 102)) (what : Int32) : MT g bs l yX4_count cX4_count 6 (some .int) 3 0 0 [.ref (ad 100), .int what] ad dm a b r (PX (some (.int (cnS (a1 101) (a1 102) (a1 103) nF nP what))) ad dm a1 b r) := by
  refine mt_of (by decide) [some (.ref (ad 100)), some (.int what), none, none, none, none] rfl (Nat.le_of_ble_eq_true rfl) ?_
  intro E hg hbs hl hN C RT9 hcells hslots hname
  have hnF := I.2.2.1
  have hnP := I.2.2.2.2
  have lp2 : IM dm a1 nF nP → ∀ (k i : Nat) (acc : Int32) (e4 e5 : Option Value), what = 2 → i + k = nP → acc = smS (a1 102) (cnc (a1 101) (a1 102) 2) i → G E 0 0 ad dm a1 b r 40 [some (.ref (ad 100)), some (.int 2), some (.int acc), some (.int (nI i)), e4, e5] [] := by
    intro I k i acc e4 e5 hw
    subst hw
    revert i acc e4 e5
    revert k
    have lp : ∀ (k i : Nat) (acc : Int32) (e4 e5 : Option Value), i + k = nP → acc = smS (a1 102) (cnc (a1 101) (a1 102) 2) i → G E 0 0 ad dm a1 b r 40 [some (.ref (ad 100)), some (.int 2), some (.int acc), some (.int (nI i)), e4, e5] [] := by
      intro k
      induction k with
      | zero =>
        intro i acc e4 e5 hi hacc
        refine g_iload_3 (q := 41) C dX4_count_40 rfl ?_
        refine g_aload_0 (q := 42) C dX4_count_41 rfl ?_
        refine g_geti (q := 45) C f_X4_63 dX4_count_42 rfl rfl (IM.d I _ (by decide) (by decide)) ?_
        refine g_icmp_ge (tgt := 165) (q := 48) C dX4_count_45 rfl (by decide) (fun c_45 => ?_) (fun c_45 => absurd (by rw [I.nP]; exact nI_le (by omega) (by omega)) c_45)
        refine g_iload_2 (q := 166) C dX4_count_165 rfl ?_
        exact g_iret C RT9 dX4_count_166 (pxi (by rw [cnS, if_neg (by decide), if_neg (by decide), if_pos (by decide), if_neg (by decide), hacc, show i = nP by omega]))
      | succ k ih =>
        intro i acc e4 e5 hi hacc
        obtain ⟨o, ho, eo⟩ := (W i (by omega)).1
        have hip : i < nP := by omega
        refine g_iload_3 (q := 41) C dX4_count_40 rfl ?_
        refine g_aload_0 (q := 42) C dX4_count_41 rfl ?_
        refine g_geti (q := 45) C f_X4_63 dX4_count_42 rfl rfl (IM.d I _ (by decide) (by decide)) ?_
        refine g_icmp_ge (tgt := 165) (q := 48) C dX4_count_45 rfl (by decide) (fun c_45 => absurd c_45 (by rw [I.nP]; exact nI_ge (by omega) (by omega))) (fun c_45 => ?_)
        refine g_aload_0 (q := 49) C dX4_count_48 rfl ?_
        refine g_iload_3 (q := 50) C dX4_count_49 rfl ?_
        refine g_iconst (v := 5) (q := 51) C dX4_count_50 rfl (by decide) ?_
        refine g_cv2i (q := 54) C cv_X4_70 dX4_count_51 rfl rfl (IM.d I _ (by decide) (by decide)) (m_X4_get I (k := 5) (by omega) rfl rfl) (by decide) (Nat.le_of_ble_eq_true rfl) ⟨Nat.zero_le _, Nat.zero_le _⟩ ?_
        refine g_istore_4 (q := 56) C dX4_count_54 rfl (by rw [hN]; decide) rfl ?_
        refine g_iload_1 (q := 57) C dX4_count_56 rfl ?_
        refine g_iconst (v := 2) (q := 58) C dX4_count_57 rfl (by decide) ?_
        refine g_icmp_ne (tgt := 81) (q := 61) C dX4_count_58 rfl (by decide) (fun c_58 => absurd rfl c_58) (fun c_58 => ?_)
        refine g_iload_4 (q := 63) C dX4_count_61 rfl ?_
        refine g_if_ne (tgt := 81) (q := 66) C dX4_count_63 rfl (by decide) (fun c_63 => ?_) (fun c_63 => ?_)
        · refine g_iload_1 (q := 82) C dX4_count_81 rfl ?_
          refine g_iconst (v := 3) (q := 83) C dX4_count_82 rfl (by decide) ?_
          refine g_icmp_ne (tgt := 92) (q := 86) C dX4_count_83 rfl (by decide) (fun c_83 => ?_) (fun c_83 => absurd c_83 (by decide))
          refine g_iload_1 (q := 93) C dX4_count_92 rfl ?_
          refine g_iconst (v := 4) (q := 94) C dX4_count_93 rfl (by decide) ?_
          refine g_icmp_ne (tgt := 103) (q := 97) C dX4_count_94 rfl (by decide) (fun c_94 => ?_) (fun c_94 => absurd c_94 (by decide))
          refine g_iload_1 (q := 104) C dX4_count_103 rfl ?_
          refine g_iconst (v := 5) (q := 105) C dX4_count_104 rfl (by decide) ?_
          refine g_icmp_ne (tgt := 128) (q := 108) C dX4_count_105 rfl (by decide) (fun c_105 => ?_) (fun c_105 => absurd c_105 (by decide))
          refine g_iconst (v := 0) (q := 129) C dX4_count_128 rfl (by decide) ?_
          refine g_istore_5 (q := 131) C dX4_count_129 rfl (by rw [hN]; decide) rfl ?_
          refine g_iload_5 (q := 133) C dX4_count_131 rfl ?_
          refine g_if_eq (tgt := 145) (q := 136) C dX4_count_133 rfl (by decide) (fun _ => ?_) (fun c_133 => absurd rfl c_133)
          refine g_iload_1 (q := 146) C dX4_count_145 rfl ?_
          refine g_bipush (v := 6) (q := 148) C dX4_count_146 rfl (by decide) ?_
          refine g_icmp_ne (tgt := 159) (q := 151) C dX4_count_148 rfl (by decide) (fun c_148 => ?_) (fun c_148 => absurd c_148 (by decide))
          refine g_iinc_3 (v := nI (i + 1)) (q := 162) C dX4_count_159 rfl (by rw [hN]; decide) (nI_1 i) ?_
          refine g_goto (tgt := 40) C dX4_count_162 (by decide) ?_
          exact ih (i + 1) _ _ _ (by omega) (by first | (simp [smS, cnc_2, hacc, c_63, c_78, eo, cN_nI (show o < 2 ^ 31 by omega)]) | (simp [smS, cnc_2, hacc, c_63]))
        · refine g_aload_0 (q := 67) C dX4_count_66 rfl ?_
          refine g_aload_0 (q := 68) C dX4_count_67 rfl ?_
          refine g_iload_3 (q := 69) C dX4_count_68 rfl ?_
          refine g_iconst (v := 0) (q := 70) C dX4_count_69 rfl (by decide) ?_
          refine g_cv2i (q := 73) C cv_X4_70 dX4_count_70 rfl rfl (IM.d I _ (by decide) (by decide)) (m_X4_get0 I (by omega) rfl) (by decide) (Nat.le_of_ble_eq_true rfl) ⟨Nat.zero_le _, Nat.zero_le _⟩ ?_
          rw [eo]
          refine g_bipush (v := 6) (q := 75) C dX4_count_73 rfl (by decide) ?_
          refine g_cv2i (q := 78) C cv_X4_74 dX4_count_75 rfl rfl (IM.d I _ (by decide) (by decide)) (m_X4_of7 I (k := 6) (by omega) rfl rfl) (by decide) (Nat.le_of_ble_eq_true rfl) ⟨Nat.zero_le _, Nat.zero_le _⟩ ?_
          refine g_if_eq (tgt := 124) (q := 81) C dX4_count_78 rfl (by decide) (fun c_78 => ?_) (fun c_78 => ?_)
          · refine g_iconst (v := 1) (q := 125) C dX4_count_124 rfl (by decide) ?_
            refine g_goto (tgt := 129) C dX4_count_125 (by decide) ?_
            refine g_istore_5 (q := 131) C dX4_count_129 rfl (by rw [hN]; decide) rfl ?_
            refine g_iload_5 (q := 133) C dX4_count_131 rfl ?_
            refine g_if_eq (tgt := 145) (q := 136) C dX4_count_133 rfl (by decide) (fun c_133 => absurd c_133 (by decide)) (fun _ => ?_)
            refine g_iload_2 (q := 137) C dX4_count_136 rfl ?_
            refine g_aload_0 (q := 138) C dX4_count_137 rfl ?_
            refine g_iload_3 (q := 139) C dX4_count_138 rfl ?_
            refine g_iconst (v := 1) (q := 140) C dX4_count_139 rfl (by decide) ?_
            refine g_cv2i (q := 143) C cv_X4_70 dX4_count_140 rfl rfl (IM.d I _ (by decide) (by decide)) (m_X4_get I (k := 1) (by omega) rfl rfl) (by decide) (Nat.le_of_ble_eq_true rfl) ⟨Nat.zero_le _, Nat.zero_le _⟩ ?_
            refine g_iadd (q := 144) C dX4_count_143 rfl ?_
            refine g_istore_2 (q := 145) C dX4_count_144 rfl (by rw [hN]; decide) rfl ?_
            refine g_iload_1 (q := 146) C dX4_count_145 rfl ?_
            refine g_bipush (v := 6) (q := 148) C dX4_count_146 rfl (by decide) ?_
            refine g_icmp_ne (tgt := 159) (q := 151) C dX4_count_148 rfl (by decide) (fun c_148 => ?_) (fun c_148 => absurd c_148 (by decide))
            refine g_iinc_3 (v := nI (i + 1)) (q := 162) C dX4_count_159 rfl (by rw [hN]; decide) (nI_1 i) ?_
            refine g_goto (tgt := 40) C dX4_count_162 (by decide) ?_
            exact ih (i + 1) _ _ _ (by omega) (by first | (simp [smS, cnc_2, hacc, c_63, c_78, eo, cN_nI (show o < 2 ^ 31 by omega)]) | (simp [smS, cnc_2, hacc, c_63]))
          · refine g_iload_1 (q := 82) C dX4_count_81 rfl ?_
            refine g_iconst (v := 3) (q := 83) C dX4_count_82 rfl (by decide) ?_
            refine g_icmp_ne (tgt := 92) (q := 86) C dX4_count_83 rfl (by decide) (fun c_83 => ?_) (fun c_83 => absurd c_83 (by decide))
            refine g_iload_1 (q := 93) C dX4_count_92 rfl ?_
            refine g_iconst (v := 4) (q := 94) C dX4_count_93 rfl (by decide) ?_
            refine g_icmp_ne (tgt := 103) (q := 97) C dX4_count_94 rfl (by decide) (fun c_94 => ?_) (fun c_94 => absurd c_94 (by decide))
            refine g_iload_1 (q := 104) C dX4_count_103 rfl ?_
            refine g_iconst (v := 5) (q := 105) C dX4_count_104 rfl (by decide) ?_
            refine g_icmp_ne (tgt := 128) (q := 108) C dX4_count_105 rfl (by decide) (fun c_105 => ?_) (fun c_105 => absurd c_105 (by decide))
            refine g_iconst (v := 0) (q := 129) C dX4_count_128 rfl (by decide) ?_
            refine g_istore_5 (q := 131) C dX4_count_129 rfl (by rw [hN]; decide) rfl ?_
            refine g_iload_5 (q := 133) C dX4_count_131 rfl ?_
            refine g_if_eq (tgt := 145) (q := 136) C dX4_count_133 rfl (by decide) (fun _ => ?_) (fun c_133 => absurd rfl c_133)
            refine g_iload_1 (q := 146) C dX4_count_145 rfl ?_
            refine g_bipush (v := 6) (q := 148) C dX4_count_146 rfl (by decide) ?_
            refine g_icmp_ne (tgt := 159) (q := 151) C dX4_count_148 rfl (by decide) (fun c_148 => ?_) (fun c_148 => absurd c_148 (by decide))
            refine g_iinc_3 (v := nI (i + 1)) (q := 162) C dX4_count_159 rfl (by rw [hN]; decide) (nI_1 i) ?_
            refine g_goto (tgt := 40) C dX4_count_162 (by decide) ?_
            exact ih (i + 1) _ _ _ (by omega) (by first | (simp [smS, cnc_2, hacc, c_63, c_78, eo, cN_nI (show o < 2 ^ 31 by omega)]) | (simp [smS, cnc_2, hacc, c_63]))
    exact lp
  have lp3 : IM dm a1 nF nP → ∀ (k i : Nat) (acc : Int32) (e4 e5 : Option Value), what = 3 → i + k = nP → acc = smS (a1 102) (cnc (a1 101) (a1 102) 3) i → G E 0 0 ad dm a1 b r 40 [some (.ref (ad 100)), some (.int 3), some (.int acc), some (.int (nI i)), e4, e5] [] := by
    intro I k i acc e4 e5 hw
    subst hw
    revert i acc e4 e5
    revert k
    have lp : ∀ (k i : Nat) (acc : Int32) (e4 e5 : Option Value), i + k = nP → acc = smS (a1 102) (cnc (a1 101) (a1 102) 3) i → G E 0 0 ad dm a1 b r 40 [some (.ref (ad 100)), some (.int 3), some (.int acc), some (.int (nI i)), e4, e5] [] := by
      intro k
      induction k with
      | zero =>
        intro i acc e4 e5 hi hacc
        refine g_iload_3 (q := 41) C dX4_count_40 rfl ?_
        refine g_aload_0 (q := 42) C dX4_count_41 rfl ?_
        refine g_geti (q := 45) C f_X4_63 dX4_count_42 rfl rfl (IM.d I _ (by decide) (by decide)) ?_
        refine g_icmp_ge (tgt := 165) (q := 48) C dX4_count_45 rfl (by decide) (fun c_45 => ?_) (fun c_45 => absurd (by rw [I.nP]; exact nI_le (by omega) (by omega)) c_45)
        refine g_iload_2 (q := 166) C dX4_count_165 rfl ?_
        exact g_iret C RT9 dX4_count_166 (pxi (by rw [cnS, if_neg (by decide), if_neg (by decide), if_pos (by decide), if_neg (by decide), hacc, show i = nP by omega]))
      | succ k ih =>
        intro i acc e4 e5 hi hacc
        obtain ⟨o, ho, eo⟩ := (W i (by omega)).1
        have hip : i < nP := by omega
        refine g_iload_3 (q := 41) C dX4_count_40 rfl ?_
        refine g_aload_0 (q := 42) C dX4_count_41 rfl ?_
        refine g_geti (q := 45) C f_X4_63 dX4_count_42 rfl rfl (IM.d I _ (by decide) (by decide)) ?_
        refine g_icmp_ge (tgt := 165) (q := 48) C dX4_count_45 rfl (by decide) (fun c_45 => absurd c_45 (by rw [I.nP]; exact nI_ge (by omega) (by omega))) (fun c_45 => ?_)
        refine g_aload_0 (q := 49) C dX4_count_48 rfl ?_
        refine g_iload_3 (q := 50) C dX4_count_49 rfl ?_
        refine g_iconst (v := 5) (q := 51) C dX4_count_50 rfl (by decide) ?_
        refine g_cv2i (q := 54) C cv_X4_70 dX4_count_51 rfl rfl (IM.d I _ (by decide) (by decide)) (m_X4_get I (k := 5) (by omega) rfl rfl) (by decide) (Nat.le_of_ble_eq_true rfl) ⟨Nat.zero_le _, Nat.zero_le _⟩ ?_
        refine g_istore_4 (q := 56) C dX4_count_54 rfl (by rw [hN]; decide) rfl ?_
        refine g_iload_1 (q := 57) C dX4_count_56 rfl ?_
        refine g_iconst (v := 2) (q := 58) C dX4_count_57 rfl (by decide) ?_
        refine g_icmp_ne (tgt := 81) (q := 61) C dX4_count_58 rfl (by decide) (fun c_58 => ?_) (fun c_58 => absurd c_58 (by decide))
        refine g_iload_1 (q := 82) C dX4_count_81 rfl ?_
        refine g_iconst (v := 3) (q := 83) C dX4_count_82 rfl (by decide) ?_
        refine g_icmp_ne (tgt := 92) (q := 86) C dX4_count_83 rfl (by decide) (fun c_83 => absurd rfl c_83) (fun c_83 => ?_)
        refine g_iload_4 (q := 88) C dX4_count_86 rfl ?_
        refine g_iconst (v := 1) (q := 89) C dX4_count_88 rfl (by decide) ?_
        refine g_icmp_eq (tgt := 124) (q := 92) C dX4_count_89 rfl (by decide) (fun c_89 => ?_) (fun c_89 => ?_)
        · refine g_iconst (v := 1) (q := 125) C dX4_count_124 rfl (by decide) ?_
          refine g_goto (tgt := 129) C dX4_count_125 (by decide) ?_
          refine g_istore_5 (q := 131) C dX4_count_129 rfl (by rw [hN]; decide) rfl ?_
          refine g_iload_5 (q := 133) C dX4_count_131 rfl ?_
          refine g_if_eq (tgt := 145) (q := 136) C dX4_count_133 rfl (by decide) (fun c_133 => absurd c_133 (by decide)) (fun _ => ?_)
          refine g_iload_2 (q := 137) C dX4_count_136 rfl ?_
          refine g_aload_0 (q := 138) C dX4_count_137 rfl ?_
          refine g_iload_3 (q := 139) C dX4_count_138 rfl ?_
          refine g_iconst (v := 1) (q := 140) C dX4_count_139 rfl (by decide) ?_
          refine g_cv2i (q := 143) C cv_X4_70 dX4_count_140 rfl rfl (IM.d I _ (by decide) (by decide)) (m_X4_get I (k := 1) (by omega) rfl rfl) (by decide) (Nat.le_of_ble_eq_true rfl) ⟨Nat.zero_le _, Nat.zero_le _⟩ ?_
          refine g_iadd (q := 144) C dX4_count_143 rfl ?_
          refine g_istore_2 (q := 145) C dX4_count_144 rfl (by rw [hN]; decide) rfl ?_
          refine g_iload_1 (q := 146) C dX4_count_145 rfl ?_
          refine g_bipush (v := 6) (q := 148) C dX4_count_146 rfl (by decide) ?_
          refine g_icmp_ne (tgt := 159) (q := 151) C dX4_count_148 rfl (by decide) (fun c_148 => ?_) (fun c_148 => absurd c_148 (by decide))
          refine g_iinc_3 (v := nI (i + 1)) (q := 162) C dX4_count_159 rfl (by rw [hN]; decide) (nI_1 i) ?_
          refine g_goto (tgt := 40) C dX4_count_162 (by decide) ?_
          exact ih (i + 1) _ _ _ (by omega) (by first | (simp [smS, cnc_3, hacc, c_89]))
        · refine g_iload_1 (q := 93) C dX4_count_92 rfl ?_
          refine g_iconst (v := 4) (q := 94) C dX4_count_93 rfl (by decide) ?_
          refine g_icmp_ne (tgt := 103) (q := 97) C dX4_count_94 rfl (by decide) (fun c_94 => ?_) (fun c_94 => absurd c_94 (by decide))
          refine g_iload_1 (q := 104) C dX4_count_103 rfl ?_
          refine g_iconst (v := 5) (q := 105) C dX4_count_104 rfl (by decide) ?_
          refine g_icmp_ne (tgt := 128) (q := 108) C dX4_count_105 rfl (by decide) (fun c_105 => ?_) (fun c_105 => absurd c_105 (by decide))
          refine g_iconst (v := 0) (q := 129) C dX4_count_128 rfl (by decide) ?_
          refine g_istore_5 (q := 131) C dX4_count_129 rfl (by rw [hN]; decide) rfl ?_
          refine g_iload_5 (q := 133) C dX4_count_131 rfl ?_
          refine g_if_eq (tgt := 145) (q := 136) C dX4_count_133 rfl (by decide) (fun _ => ?_) (fun c_133 => absurd rfl c_133)
          refine g_iload_1 (q := 146) C dX4_count_145 rfl ?_
          refine g_bipush (v := 6) (q := 148) C dX4_count_146 rfl (by decide) ?_
          refine g_icmp_ne (tgt := 159) (q := 151) C dX4_count_148 rfl (by decide) (fun c_148 => ?_) (fun c_148 => absurd c_148 (by decide))
          refine g_iinc_3 (v := nI (i + 1)) (q := 162) C dX4_count_159 rfl (by rw [hN]; decide) (nI_1 i) ?_
          refine g_goto (tgt := 40) C dX4_count_162 (by decide) ?_
          exact ih (i + 1) _ _ _ (by omega) (by first | (simp [smS, cnc_3, hacc, c_89]))
    exact lp
  have lp4 : IM dm a1 nF nP → ∀ (k i : Nat) (acc : Int32) (e4 e5 : Option Value), what = 4 → i + k = nP → acc = smS (a1 102) (cnc (a1 101) (a1 102) 4) i → G E 0 0 ad dm a1 b r 40 [some (.ref (ad 100)), some (.int 4), some (.int acc), some (.int (nI i)), e4, e5] [] := by
    intro I k i acc e4 e5 hw
    subst hw
    revert i acc e4 e5
    revert k
    have lp : ∀ (k i : Nat) (acc : Int32) (e4 e5 : Option Value), i + k = nP → acc = smS (a1 102) (cnc (a1 101) (a1 102) 4) i → G E 0 0 ad dm a1 b r 40 [some (.ref (ad 100)), some (.int 4), some (.int acc), some (.int (nI i)), e4, e5] [] := by
      intro k
      induction k with
      | zero =>
        intro i acc e4 e5 hi hacc
        refine g_iload_3 (q := 41) C dX4_count_40 rfl ?_
        refine g_aload_0 (q := 42) C dX4_count_41 rfl ?_
        refine g_geti (q := 45) C f_X4_63 dX4_count_42 rfl rfl (IM.d I _ (by decide) (by decide)) ?_
        refine g_icmp_ge (tgt := 165) (q := 48) C dX4_count_45 rfl (by decide) (fun c_45 => ?_) (fun c_45 => absurd (by rw [I.nP]; exact nI_le (by omega) (by omega)) c_45)
        refine g_iload_2 (q := 166) C dX4_count_165 rfl ?_
        exact g_iret C RT9 dX4_count_166 (pxi (by rw [cnS, if_neg (by decide), if_neg (by decide), if_pos (by decide), if_neg (by decide), hacc, show i = nP by omega]))
      | succ k ih =>
        intro i acc e4 e5 hi hacc
        obtain ⟨o, ho, eo⟩ := (W i (by omega)).1
        have hip : i < nP := by omega
        refine g_iload_3 (q := 41) C dX4_count_40 rfl ?_
        refine g_aload_0 (q := 42) C dX4_count_41 rfl ?_
        refine g_geti (q := 45) C f_X4_63 dX4_count_42 rfl rfl (IM.d I _ (by decide) (by decide)) ?_
        refine g_icmp_ge (tgt := 165) (q := 48) C dX4_count_45 rfl (by decide) (fun c_45 => absurd c_45 (by rw [I.nP]; exact nI_ge (by omega) (by omega))) (fun c_45 => ?_)
        refine g_aload_0 (q := 49) C dX4_count_48 rfl ?_
        refine g_iload_3 (q := 50) C dX4_count_49 rfl ?_
        refine g_iconst (v := 5) (q := 51) C dX4_count_50 rfl (by decide) ?_
        refine g_cv2i (q := 54) C cv_X4_70 dX4_count_51 rfl rfl (IM.d I _ (by decide) (by decide)) (m_X4_get I (k := 5) (by omega) rfl rfl) (by decide) (Nat.le_of_ble_eq_true rfl) ⟨Nat.zero_le _, Nat.zero_le _⟩ ?_
        refine g_istore_4 (q := 56) C dX4_count_54 rfl (by rw [hN]; decide) rfl ?_
        refine g_iload_1 (q := 57) C dX4_count_56 rfl ?_
        refine g_iconst (v := 2) (q := 58) C dX4_count_57 rfl (by decide) ?_
        refine g_icmp_ne (tgt := 81) (q := 61) C dX4_count_58 rfl (by decide) (fun c_58 => ?_) (fun c_58 => absurd c_58 (by decide))
        refine g_iload_1 (q := 82) C dX4_count_81 rfl ?_
        refine g_iconst (v := 3) (q := 83) C dX4_count_82 rfl (by decide) ?_
        refine g_icmp_ne (tgt := 92) (q := 86) C dX4_count_83 rfl (by decide) (fun c_83 => ?_) (fun c_83 => absurd c_83 (by decide))
        refine g_iload_1 (q := 93) C dX4_count_92 rfl ?_
        refine g_iconst (v := 4) (q := 94) C dX4_count_93 rfl (by decide) ?_
        refine g_icmp_ne (tgt := 103) (q := 97) C dX4_count_94 rfl (by decide) (fun c_94 => absurd rfl c_94) (fun c_94 => ?_)
        refine g_iload_4 (q := 99) C dX4_count_97 rfl ?_
        refine g_iconst (v := 2) (q := 100) C dX4_count_99 rfl (by decide) ?_
        refine g_icmp_eq (tgt := 124) (q := 103) C dX4_count_100 rfl (by decide) (fun c_100 => ?_) (fun c_100 => ?_)
        · refine g_iconst (v := 1) (q := 125) C dX4_count_124 rfl (by decide) ?_
          refine g_goto (tgt := 129) C dX4_count_125 (by decide) ?_
          refine g_istore_5 (q := 131) C dX4_count_129 rfl (by rw [hN]; decide) rfl ?_
          refine g_iload_5 (q := 133) C dX4_count_131 rfl ?_
          refine g_if_eq (tgt := 145) (q := 136) C dX4_count_133 rfl (by decide) (fun c_133 => absurd c_133 (by decide)) (fun _ => ?_)
          refine g_iload_2 (q := 137) C dX4_count_136 rfl ?_
          refine g_aload_0 (q := 138) C dX4_count_137 rfl ?_
          refine g_iload_3 (q := 139) C dX4_count_138 rfl ?_
          refine g_iconst (v := 1) (q := 140) C dX4_count_139 rfl (by decide) ?_
          refine g_cv2i (q := 143) C cv_X4_70 dX4_count_140 rfl rfl (IM.d I _ (by decide) (by decide)) (m_X4_get I (k := 1) (by omega) rfl rfl) (by decide) (Nat.le_of_ble_eq_true rfl) ⟨Nat.zero_le _, Nat.zero_le _⟩ ?_
          refine g_iadd (q := 144) C dX4_count_143 rfl ?_
          refine g_istore_2 (q := 145) C dX4_count_144 rfl (by rw [hN]; decide) rfl ?_
          refine g_iload_1 (q := 146) C dX4_count_145 rfl ?_
          refine g_bipush (v := 6) (q := 148) C dX4_count_146 rfl (by decide) ?_
          refine g_icmp_ne (tgt := 159) (q := 151) C dX4_count_148 rfl (by decide) (fun c_148 => ?_) (fun c_148 => absurd c_148 (by decide))
          refine g_iinc_3 (v := nI (i + 1)) (q := 162) C dX4_count_159 rfl (by rw [hN]; decide) (nI_1 i) ?_
          refine g_goto (tgt := 40) C dX4_count_162 (by decide) ?_
          exact ih (i + 1) _ _ _ (by omega) (by first | (simp [smS, cnc_4, hacc, c_100]))
        · refine g_iload_1 (q := 104) C dX4_count_103 rfl ?_
          refine g_iconst (v := 5) (q := 105) C dX4_count_104 rfl (by decide) ?_
          refine g_icmp_ne (tgt := 128) (q := 108) C dX4_count_105 rfl (by decide) (fun c_105 => ?_) (fun c_105 => absurd c_105 (by decide))
          refine g_iconst (v := 0) (q := 129) C dX4_count_128 rfl (by decide) ?_
          refine g_istore_5 (q := 131) C dX4_count_129 rfl (by rw [hN]; decide) rfl ?_
          refine g_iload_5 (q := 133) C dX4_count_131 rfl ?_
          refine g_if_eq (tgt := 145) (q := 136) C dX4_count_133 rfl (by decide) (fun _ => ?_) (fun c_133 => absurd rfl c_133)
          refine g_iload_1 (q := 146) C dX4_count_145 rfl ?_
          refine g_bipush (v := 6) (q := 148) C dX4_count_146 rfl (by decide) ?_
          refine g_icmp_ne (tgt := 159) (q := 151) C dX4_count_148 rfl (by decide) (fun c_148 => ?_) (fun c_148 => absurd c_148 (by decide))
          refine g_iinc_3 (v := nI (i + 1)) (q := 162) C dX4_count_159 rfl (by rw [hN]; decide) (nI_1 i) ?_
          refine g_goto (tgt := 40) C dX4_count_162 (by decide) ?_
          exact ih (i + 1) _ _ _ (by omega) (by first | (simp [smS, cnc_4, hacc, c_100]))
    exact lp
  have lp5 : IM dm a1 nF nP → ∀ (k i : Nat) (acc : Int32) (e4 e5 : Option Value), what = 5 → i + k = nP → acc = smS (a1 102) (cnc (a1 101) (a1 102) 5) i → G E 0 0 ad dm a1 b r 40 [some (.ref (ad 100)), some (.int 5), some (.int acc), some (.int (nI i)), e4, e5] [] := by
    intro I k i acc e4 e5 hw
    subst hw
    revert i acc e4 e5
    revert k
    have lp : ∀ (k i : Nat) (acc : Int32) (e4 e5 : Option Value), i + k = nP → acc = smS (a1 102) (cnc (a1 101) (a1 102) 5) i → G E 0 0 ad dm a1 b r 40 [some (.ref (ad 100)), some (.int 5), some (.int acc), some (.int (nI i)), e4, e5] [] := by
      intro k
      induction k with
      | zero =>
        intro i acc e4 e5 hi hacc
        refine g_iload_3 (q := 41) C dX4_count_40 rfl ?_
        refine g_aload_0 (q := 42) C dX4_count_41 rfl ?_
        refine g_geti (q := 45) C f_X4_63 dX4_count_42 rfl rfl (IM.d I _ (by decide) (by decide)) ?_
        refine g_icmp_ge (tgt := 165) (q := 48) C dX4_count_45 rfl (by decide) (fun c_45 => ?_) (fun c_45 => absurd (by rw [I.nP]; exact nI_le (by omega) (by omega)) c_45)
        refine g_iload_2 (q := 166) C dX4_count_165 rfl ?_
        exact g_iret C RT9 dX4_count_166 (pxi (by rw [cnS, if_neg (by decide), if_neg (by decide), if_pos (by decide), if_neg (by decide), hacc, show i = nP by omega]))
      | succ k ih =>
        intro i acc e4 e5 hi hacc
        obtain ⟨o, ho, eo⟩ := (W i (by omega)).1
        have hip : i < nP := by omega
        refine g_iload_3 (q := 41) C dX4_count_40 rfl ?_
        refine g_aload_0 (q := 42) C dX4_count_41 rfl ?_
        refine g_geti (q := 45) C f_X4_63 dX4_count_42 rfl rfl (IM.d I _ (by decide) (by decide)) ?_
        refine g_icmp_ge (tgt := 165) (q := 48) C dX4_count_45 rfl (by decide) (fun c_45 => absurd c_45 (by rw [I.nP]; exact nI_ge (by omega) (by omega))) (fun c_45 => ?_)
        refine g_aload_0 (q := 49) C dX4_count_48 rfl ?_
        refine g_iload_3 (q := 50) C dX4_count_49 rfl ?_
        refine g_iconst (v := 5) (q := 51) C dX4_count_50 rfl (by decide) ?_
        refine g_cv2i (q := 54) C cv_X4_70 dX4_count_51 rfl rfl (IM.d I _ (by decide) (by decide)) (m_X4_get I (k := 5) (by omega) rfl rfl) (by decide) (Nat.le_of_ble_eq_true rfl) ⟨Nat.zero_le _, Nat.zero_le _⟩ ?_
        refine g_istore_4 (q := 56) C dX4_count_54 rfl (by rw [hN]; decide) rfl ?_
        refine g_iload_1 (q := 57) C dX4_count_56 rfl ?_
        refine g_iconst (v := 2) (q := 58) C dX4_count_57 rfl (by decide) ?_
        refine g_icmp_ne (tgt := 81) (q := 61) C dX4_count_58 rfl (by decide) (fun c_58 => ?_) (fun c_58 => absurd c_58 (by decide))
        refine g_iload_1 (q := 82) C dX4_count_81 rfl ?_
        refine g_iconst (v := 3) (q := 83) C dX4_count_82 rfl (by decide) ?_
        refine g_icmp_ne (tgt := 92) (q := 86) C dX4_count_83 rfl (by decide) (fun c_83 => ?_) (fun c_83 => absurd c_83 (by decide))
        refine g_iload_1 (q := 93) C dX4_count_92 rfl ?_
        refine g_iconst (v := 4) (q := 94) C dX4_count_93 rfl (by decide) ?_
        refine g_icmp_ne (tgt := 103) (q := 97) C dX4_count_94 rfl (by decide) (fun c_94 => ?_) (fun c_94 => absurd c_94 (by decide))
        refine g_iload_1 (q := 104) C dX4_count_103 rfl ?_
        refine g_iconst (v := 5) (q := 105) C dX4_count_104 rfl (by decide) ?_
        refine g_icmp_ne (tgt := 128) (q := 108) C dX4_count_105 rfl (by decide) (fun c_105 => absurd rfl c_105) (fun c_105 => ?_)
        refine g_iload_4 (q := 110) C dX4_count_108 rfl ?_
        refine g_if_le (tgt := 128) (q := 113) C dX4_count_110 rfl (by decide) (fun c_110 => ?_) (fun c_110 => ?_)
        · refine g_iconst (v := 0) (q := 129) C dX4_count_128 rfl (by decide) ?_
          refine g_istore_5 (q := 131) C dX4_count_129 rfl (by rw [hN]; decide) rfl ?_
          refine g_iload_5 (q := 133) C dX4_count_131 rfl ?_
          refine g_if_eq (tgt := 145) (q := 136) C dX4_count_133 rfl (by decide) (fun _ => ?_) (fun c_133 => absurd rfl c_133)
          refine g_iload_1 (q := 146) C dX4_count_145 rfl ?_
          refine g_bipush (v := 6) (q := 148) C dX4_count_146 rfl (by decide) ?_
          refine g_icmp_ne (tgt := 159) (q := 151) C dX4_count_148 rfl (by decide) (fun c_148 => ?_) (fun c_148 => absurd c_148 (by decide))
          refine g_iinc_3 (v := nI (i + 1)) (q := 162) C dX4_count_159 rfl (by rw [hN]; decide) (nI_1 i) ?_
          refine g_goto (tgt := 40) C dX4_count_162 (by decide) ?_
          exact ih (i + 1) _ _ _ (by omega) (by first | (simp [smS, cnc_5, hacc, c_110, c_121]) | (simp [smS, cnc_5, hacc, Int32.not_lt.mpr c_110]))
        · refine g_aload_0 (q := 114) C dX4_count_113 rfl ?_
          refine g_iload_3 (q := 115) C dX4_count_114 rfl ?_
          refine g_bipush (v := 7) (q := 117) C dX4_count_115 rfl (by decide) ?_
          refine g_cv2i (q := 120) C cv_X4_70 dX4_count_117 rfl rfl (IM.d I _ (by decide) (by decide)) (m_X4_get I (k := 7) (by omega) rfl rfl) (by decide) (Nat.le_of_ble_eq_true rfl) ⟨Nat.zero_le _, Nat.zero_le _⟩ ?_
          refine g_iconst (v := (-1)) (q := 121) C dX4_count_120 rfl (by decide) ?_
          refine g_icmp_eq (tgt := 128) (q := 124) C dX4_count_121 rfl (by decide) (fun c_121 => ?_) (fun c_121 => ?_)
          · refine g_iconst (v := 0) (q := 129) C dX4_count_128 rfl (by decide) ?_
            refine g_istore_5 (q := 131) C dX4_count_129 rfl (by rw [hN]; decide) rfl ?_
            refine g_iload_5 (q := 133) C dX4_count_131 rfl ?_
            refine g_if_eq (tgt := 145) (q := 136) C dX4_count_133 rfl (by decide) (fun _ => ?_) (fun c_133 => absurd rfl c_133)
            refine g_iload_1 (q := 146) C dX4_count_145 rfl ?_
            refine g_bipush (v := 6) (q := 148) C dX4_count_146 rfl (by decide) ?_
            refine g_icmp_ne (tgt := 159) (q := 151) C dX4_count_148 rfl (by decide) (fun c_148 => ?_) (fun c_148 => absurd c_148 (by decide))
            refine g_iinc_3 (v := nI (i + 1)) (q := 162) C dX4_count_159 rfl (by rw [hN]; decide) (nI_1 i) ?_
            refine g_goto (tgt := 40) C dX4_count_162 (by decide) ?_
            exact ih (i + 1) _ _ _ (by omega) (by first | (simp [smS, cnc_5, hacc, c_110, c_121]) | (simp [smS, cnc_5, hacc, Int32.not_lt.mpr c_110]))
          · refine g_iconst (v := 1) (q := 125) C dX4_count_124 rfl (by decide) ?_
            refine g_goto (tgt := 129) C dX4_count_125 (by decide) ?_
            refine g_istore_5 (q := 131) C dX4_count_129 rfl (by rw [hN]; decide) rfl ?_
            refine g_iload_5 (q := 133) C dX4_count_131 rfl ?_
            refine g_if_eq (tgt := 145) (q := 136) C dX4_count_133 rfl (by decide) (fun c_133 => absurd c_133 (by decide)) (fun _ => ?_)
            refine g_iload_2 (q := 137) C dX4_count_136 rfl ?_
            refine g_aload_0 (q := 138) C dX4_count_137 rfl ?_
            refine g_iload_3 (q := 139) C dX4_count_138 rfl ?_
            refine g_iconst (v := 1) (q := 140) C dX4_count_139 rfl (by decide) ?_
            refine g_cv2i (q := 143) C cv_X4_70 dX4_count_140 rfl rfl (IM.d I _ (by decide) (by decide)) (m_X4_get I (k := 1) (by omega) rfl rfl) (by decide) (Nat.le_of_ble_eq_true rfl) ⟨Nat.zero_le _, Nat.zero_le _⟩ ?_
            refine g_iadd (q := 144) C dX4_count_143 rfl ?_
            refine g_istore_2 (q := 145) C dX4_count_144 rfl (by rw [hN]; decide) rfl ?_
            refine g_iload_1 (q := 146) C dX4_count_145 rfl ?_
            refine g_bipush (v := 6) (q := 148) C dX4_count_146 rfl (by decide) ?_
            refine g_icmp_ne (tgt := 159) (q := 151) C dX4_count_148 rfl (by decide) (fun c_148 => ?_) (fun c_148 => absurd c_148 (by decide))
            refine g_iinc_3 (v := nI (i + 1)) (q := 162) C dX4_count_159 rfl (by rw [hN]; decide) (nI_1 i) ?_
            refine g_goto (tgt := 40) C dX4_count_162 (by decide) ?_
            exact ih (i + 1) _ _ _ (by omega) (by first | (simp [smS, cnc_5, hacc, c_110, c_121]) | (simp [smS, cnc_5, hacc, Int32.not_lt.mpr c_110]))
    exact lp
  have lp6 : IM dm a1 nF nP → ∀ (k i : Nat) (acc : Int32) (e4 e5 : Option Value), what = 6 → i + k = nP → acc = csS (a1 101) (a1 102) (a1 103) i → G E 0 0 ad dm a1 b r 40 [some (.ref (ad 100)), some (.int 6), some (.int acc), some (.int (nI i)), e4, e5] [] := by
    intro I k i acc e4 e5 hw
    subst hw
    revert i acc e4 e5
    revert k
    have lp : ∀ (k i : Nat) (acc : Int32) (e4 e5 : Option Value), i + k = nP → acc = csS (a1 101) (a1 102) (a1 103) i → G E 0 0 ad dm a1 b r 40 [some (.ref (ad 100)), some (.int 6), some (.int acc), some (.int (nI i)), e4, e5] [] := by
      intro k
      induction k with
      | zero =>
        intro i acc e4 e5 hi hacc
        refine g_iload_3 (q := 41) C dX4_count_40 rfl ?_
        refine g_aload_0 (q := 42) C dX4_count_41 rfl ?_
        refine g_geti (q := 45) C f_X4_63 dX4_count_42 rfl rfl (IM.d I _ (by decide) (by decide)) ?_
        refine g_icmp_ge (tgt := 165) (q := 48) C dX4_count_45 rfl (by decide) (fun c_45 => ?_) (fun c_45 => absurd (by rw [I.nP]; exact nI_le (by omega) (by omega)) c_45)
        refine g_iload_2 (q := 166) C dX4_count_165 rfl ?_
        exact g_iret C RT9 dX4_count_166 (pxi (by rw [cnS, if_neg (by decide), if_neg (by decide), if_pos (by decide), if_pos rfl, hacc, show i = nP by omega]))
      | succ k ih =>
        intro i acc e4 e5 hi hacc
        obtain ⟨o, ho, eo⟩ := (W i (by omega)).1
        have hip : i < nP := by omega
        refine g_iload_3 (q := 41) C dX4_count_40 rfl ?_
        refine g_aload_0 (q := 42) C dX4_count_41 rfl ?_
        refine g_geti (q := 45) C f_X4_63 dX4_count_42 rfl rfl (IM.d I _ (by decide) (by decide)) ?_
        refine g_icmp_ge (tgt := 165) (q := 48) C dX4_count_45 rfl (by decide) (fun c_45 => absurd c_45 (by rw [I.nP]; exact nI_ge (by omega) (by omega))) (fun c_45 => ?_)
        refine g_aload_0 (q := 49) C dX4_count_48 rfl ?_
        refine g_iload_3 (q := 50) C dX4_count_49 rfl ?_
        refine g_iconst (v := 5) (q := 51) C dX4_count_50 rfl (by decide) ?_
        refine g_cv2i (q := 54) C cv_X4_70 dX4_count_51 rfl rfl (IM.d I _ (by decide) (by decide)) (m_X4_get I (k := 5) (by omega) rfl rfl) (by decide) (Nat.le_of_ble_eq_true rfl) ⟨Nat.zero_le _, Nat.zero_le _⟩ ?_
        refine g_istore_4 (q := 56) C dX4_count_54 rfl (by rw [hN]; decide) rfl ?_
        refine g_iload_1 (q := 57) C dX4_count_56 rfl ?_
        refine g_iconst (v := 2) (q := 58) C dX4_count_57 rfl (by decide) ?_
        refine g_icmp_ne (tgt := 81) (q := 61) C dX4_count_58 rfl (by decide) (fun c_58 => ?_) (fun c_58 => absurd c_58 (by decide))
        refine g_iload_1 (q := 82) C dX4_count_81 rfl ?_
        refine g_iconst (v := 3) (q := 83) C dX4_count_82 rfl (by decide) ?_
        refine g_icmp_ne (tgt := 92) (q := 86) C dX4_count_83 rfl (by decide) (fun c_83 => ?_) (fun c_83 => absurd c_83 (by decide))
        refine g_iload_1 (q := 93) C dX4_count_92 rfl ?_
        refine g_iconst (v := 4) (q := 94) C dX4_count_93 rfl (by decide) ?_
        refine g_icmp_ne (tgt := 103) (q := 97) C dX4_count_94 rfl (by decide) (fun c_94 => ?_) (fun c_94 => absurd c_94 (by decide))
        refine g_iload_1 (q := 104) C dX4_count_103 rfl ?_
        refine g_iconst (v := 5) (q := 105) C dX4_count_104 rfl (by decide) ?_
        refine g_icmp_ne (tgt := 128) (q := 108) C dX4_count_105 rfl (by decide) (fun c_105 => ?_) (fun c_105 => absurd c_105 (by decide))
        refine g_iconst (v := 0) (q := 129) C dX4_count_128 rfl (by decide) ?_
        refine g_istore_5 (q := 131) C dX4_count_129 rfl (by rw [hN]; decide) rfl ?_
        refine g_iload_5 (q := 133) C dX4_count_131 rfl ?_
        refine g_if_eq (tgt := 145) (q := 136) C dX4_count_133 rfl (by decide) (fun _ => ?_) (fun c_133 => absurd rfl c_133)
        refine g_iload_1 (q := 146) C dX4_count_145 rfl ?_
        refine g_bipush (v := 6) (q := 148) C dX4_count_146 rfl (by decide) ?_
        refine g_icmp_ne (tgt := 159) (q := 151) C dX4_count_148 rfl (by decide) (fun c_148 => absurd rfl c_148) (fun c_148 => ?_)
        refine g_iload_2 (q := 152) C dX4_count_151 rfl ?_
        refine g_aload_0 (q := 153) C dX4_count_152 rfl ?_
        refine g_iload_3 (q := 154) C dX4_count_153 rfl ?_
        refine g_cv1i (q := 157) C cv_X4_95 dX4_count_154 rfl rfl (IM.d I _ (by decide) (by decide)) (m_X4_claim I W (by assumption) rfl) (by decide) (Nat.le_of_ble_eq_true rfl) ⟨Nat.zero_le _, Nat.zero_le _⟩ ?_
        refine g_iadd (q := 158) C dX4_count_157 rfl ?_
        refine g_istore_2 (q := 159) C dX4_count_158 rfl (by rw [hN]; decide) rfl ?_
        refine g_iinc_3 (v := nI (i + 1)) (q := 162) C dX4_count_159 rfl (by rw [hN]; decide) (nI_1 i) ?_
        refine g_goto (tgt := 40) C dX4_count_162 (by decide) ?_
        exact ih (i + 1) _ _ _ (by omega) (by first | (rw [csS, hacc]))
    exact lp
  refine g_aload_0 (q := 1) C dX4_count_0 rfl ?_
  refine g_iconst (v := 0) (q := 2) C dX4_count_1 rfl (by decide) ?_
  refine g_puti (q := 5) C p_X4_52 dX4_count_2 rfl rfl (IM.d I _ (by decide) (by decide)) rfl rfl ?_
  rw [← ha]
  have I : IM dm a1 nF nP := by rw [ha]; exact I.th
  refine g_iload_1 (q := 6) C dX4_count_5 rfl ?_
  refine g_if_ne (tgt := 14) (q := 9) C dX4_count_6 rfl (by decide) (fun c_6 => ?_) (fun c_6 => ?_)
  · refine g_iload_1 (q := 15) C dX4_count_14 rfl ?_
    refine g_iconst (v := 1) (q := 16) C dX4_count_15 rfl (by decide) ?_
    refine g_icmp_ne (tgt := 24) (q := 19) C dX4_count_16 rfl (by decide) (fun c_16 => ?_) (fun c_16 => ?_)
    · refine g_iload_1 (q := 25) C dX4_count_24 rfl ?_
      refine g_iconst (v := 2) (q := 26) C dX4_count_25 rfl (by decide) ?_
      refine g_bipush (v := 6) (q := 28) C dX4_count_26 rfl (by decide) ?_
      refine g_cs3i (q := 31) C cs_X4_59 dX4_count_28 rfl (m_X4_in _ _ _) (by decide) (Nat.le_of_ble_eq_true rfl) ⟨Nat.zero_le _, Nat.zero_le _⟩ ?_
      refine g_ifneb (tgt := 36) (q := 34) C dX4_count_31 rfl (by decide) (fun c_31 => ?_) (fun c_31 => ?_)
      · have hw : what = 2 ∨ what = 3 ∨ what = 4 ∨ what = 5 ∨ what = 6 := in26 c_31
        refine g_iconst (v := 0) (q := 37) C dX4_count_36 rfl (by decide) ?_
        refine g_istore_2 (q := 38) C dX4_count_37 rfl (by rw [hN]; decide) rfl ?_
        refine g_iconst (v := 0) (q := 39) C dX4_count_38 rfl (by decide) ?_
        refine g_istore_3 (q := 40) C dX4_count_39 rfl (by rw [hN]; decide) rfl ?_
        rcases hw with rfl | rfl | rfl | rfl | rfl
        · exact lp2 I nP 0 _ _ _ rfl (by omega) rfl
        · exact lp3 I nP 0 _ _ _ rfl (by omega) rfl
        · exact lp4 I nP 0 _ _ _ rfl (by omega) rfl
        · exact lp5 I nP 0 _ _ _ rfl (by omega) rfl
        · exact lp6 I nP 0 _ _ _ rfl (by omega) rfl
      · refine g_iconst (v := (-1)) (q := 35) C dX4_count_34 rfl (by decide) ?_
        exact g_iret C RT9 dX4_count_35 (pxi (by rw [cnS, if_neg c_6, if_neg c_16, if_neg (by rw [c_31]; decide)]))
    · refine g_aload_0 (q := 20) C dX4_count_19 rfl ?_
      refine g_geti (q := 23) C f_X4_63 dX4_count_20 rfl rfl (IM.d I _ (by decide) (by decide)) ?_
      exact g_iret C RT9 dX4_count_23 (pxi (by rw [I.nP, c_16]; rfl))
  · refine g_aload_0 (q := 10) C dX4_count_9 rfl ?_
    refine g_geti (q := 13) C f_X4_56 dX4_count_10 rfl rfl (IM.d I _ (by decide) (by decide)) ?_
    exact g_iret C RT9 dX4_count_13 (pxi (by rw [I.nF, c_6]; rfl))

theorem unc_0 {fl pa : Nat → Int32} {p : Nat} (h : pa (9 * p + 7) = -1) : unc fl pa p = false := by simp [unc, h]
theorem unc_1 {fl pa : Nat → Int32} {p i : Nat} (h : ¬ pa (9 * p + 7) = -1) (e : pa (9 * p + 7) = nI i) (hi : i < 8) (h2 : ¬ fl (7 * i + 6) = 0) : unc fl pa p = true := by
  unfold unc
  rw [decide_eq_true h, e, cN_nI (by omega), decide_eq_false h2]
  rfl
theorem unc_2 {fl pa : Nat → Int32} {p i : Nat} (h : ¬ pa (9 * p + 7) = -1) (e : pa (9 * p + 7) = nI i) (hi : i < 8) (h2 : fl (7 * i + 6) = 0) (h3 : pa (9 * p + 8) = -1) : unc fl pa p = false := by
  unfold unc
  rw [decide_eq_true h, e, cN_nI (by omega), decide_eq_true h2, decide_eq_true h3]
  rfl
theorem unc_3 {fl pa : Nat → Int32} {p i j : Nat} (h : ¬ pa (9 * p + 7) = -1) (e : pa (9 * p + 7) = nI i) (hi : i < 8) (h2 : fl (7 * i + 6) = 0) (h3 : ¬ pa (9 * p + 8) = -1) (e8 : pa (9 * p + 8) = nI j) (hj : j < 8) (h4 : ¬ fl (7 * j + 6) = 0) : unc fl pa p = true := by
  unfold unc
  rw [decide_eq_true h, decide_eq_false h3, e, e8, cN_nI (by omega), cN_nI (by omega), decide_eq_true h2, decide_eq_false h4]
  rfl
theorem unc_4 {fl pa : Nat → Int32} {p i j : Nat} (h : ¬ pa (9 * p + 7) = -1) (e : pa (9 * p + 7) = nI i) (hi : i < 8) (h2 : fl (7 * i + 6) = 0) (h3 : ¬ pa (9 * p + 8) = -1) (e8 : pa (9 * p + 8) = nI j) (hj : j < 8) (h4 : fl (7 * j + 6) = 0) : unc fl pa p = false := by
  unfold unc
  rw [decide_eq_true h, decide_eq_false h3, e, e8, cN_nI (by omega), cN_nI (by omega), decide_eq_true h2, decide_eq_true h4]
  rfl
theorem unc_c {fl pa pb : Nat → Int32} {p : Nat} (h7 : pb (9 * p + 7) = pa (9 * p + 7)) (h8 : pb (9 * p + 8) = pa (9 * p + 8)) : unc fl pb p = unc fl pa p := by
  unfold unc
  rw [h7, h8]
set_option maxHeartbeats 4000000 in
set_option maxRecDepth 100000 in
theorem m_X4_undo (I : IM dm a nF nP) {a1 : Nat → Nat → Int32} (ha : a1 = u2 a 100 5 0) (W : WP nF nP (a1 102)) : MT g bs l yX4_undo cX4_undo 3 (some .int) 2 0 0 [.ref (ad 100)] ad dm a b r (PX (some (.int (nI (ctS (unc (a1 101) (a1 102)) nP)))) ad dm (up1 a1 102 (unP (unc (a1 101) (a1 102)) (a1 102) nP)) b r) := by
  refine mt_of (by decide) [some (.ref (ad 100)), none, none] rfl (Nat.le_of_ble_eq_true rfl) ?_
  intro E hg hbs hl hN C RT9 hcells hslots hname
  have hnF := I.2.2.1
  have hnP := I.2.2.2.2
  have lq : IM dm a1 nF nP → ∀ (k i acc : Nat) (a0 : Nat → Nat → Int32), i + k = nP → a0 = up1 a1 102 (unP (unc (a1 101) (a1 102)) (a1 102) i) → acc = ctS (unc (a1 101) (a1 102)) i → G E 0 0 ad dm a0 b r 9 [some (.ref (ad 100)), some (.int (nI acc)), some (.int (nI i))] [] := by
    intro I
    have lp : ∀ (k i : Nat) (acc : Nat) (a0 : Nat → Nat → Int32), i + k = nP → a0 = up1 a1 102 (unP (unc (a1 101) (a1 102)) (a1 102) i) → acc = ctS (unc (a1 101) (a1 102)) i → G E 0 0 ad dm a0 b r 9 [some (.ref (ad 100)), some (.int (nI acc)), some (.int (nI i))] [] := by
      intro k
      induction k with
      | zero =>
        intro i acc a0 hi h0 hacc
        have I := I.up (n := 102) (f := unP (unc (a1 101) (a1 102)) (a1 102) i) (by decide)
        rw [← h0] at I
        refine g_iload_2 (q := 10) C dX4_undo_9 rfl ?_
        refine g_aload_0 (q := 11) C dX4_undo_10 rfl ?_
        refine g_geti (q := 14) C f_X4_63 dX4_undo_11 rfl rfl (IM.d I _ (by decide) (by decide)) ?_
        refine g_icmp_ge (tgt := 102) (q := 17) C dX4_undo_14 rfl (by decide) (fun c_14 => ?_) (fun c_14 => absurd (by rw [I.nP]; exact nI_le (by omega) (by omega)) c_14)
        refine g_iload_1 (q := 103) C dX4_undo_102 rfl ?_
        exact g_iret C RT9 dX4_undo_103 ⟨by rw [hacc, show i = nP by omega], rfl, rfl, by rw [h0, show i = nP by omega], rfl, rfl⟩
      | succ k ih =>
        intro i acc a0 hi h0 hacc
        have I := I.up (n := 102) (f := unP (unc (a1 101) (a1 102)) (a1 102) i) (by decide)
        rw [← h0] at I
        have e0 : ∀ k, k < 9 → a0 102 (9 * i + k) = a1 102 (9 * i + k) := fun k hk => by rw [h0, up1_s]; exact unP_ge (by omega)
        have hip : i < nP := by omega
        have hu : unc (a0 101) (a0 102) i = unc (a1 101) (a1 102) i := by rw [show a0 101 = a1 101 by rw [h0]; rfl]; exact unc_c (e0 7 (by decide)) (e0 8 (by decide))
        have h7 : wv nF (a0 102 (9 * i + 7)) := by rw [e0 7 (by decide)]; exact (W i hip).2.2.2.2.2.2.2.1
        have h8 : wv nF (a0 102 (9 * i + 8)) := by rw [e0 8 (by decide)]; exact (W i hip).2.2.2.2.2.2.2.2.1
        have DO : unc (a0 101) (a0 102) i = true → G E 0 0 ad dm (u2 (u2 a0 102 (9 * i + 7) (-1)) 102 (9 * i + 8) (-1)) b r 9 [some (.ref (ad 100)), some (.int (nI (acc + 1))), some (.int (nI (i + 1)))] [] := fun hc => ih (i + 1) _ _ (by omega) (by rw [h0, u2_up, u2_up, unP, if_pos (hu ▸ hc)]) (by rw [ctS, if_pos (hu ▸ hc), hacc])
        have SK : unc (a0 101) (a0 102) i = false → G E 0 0 ad dm a0 b r 9 [some (.ref (ad 100)), some (.int (nI acc)), some (.int (nI (i + 1)))] [] := fun hc => ih (i + 1) _ _ (by omega) (by rw [h0, unP, if_neg (by rw [← hu, hc]; decide)]) (by rw [ctS, if_neg (by rw [← hu, hc]; decide), hacc])
        refine g_iload_2 (q := 10) C dX4_undo_9 rfl ?_
        refine g_aload_0 (q := 11) C dX4_undo_10 rfl ?_
        refine g_geti (q := 14) C f_X4_63 dX4_undo_11 rfl rfl (IM.d I _ (by decide) (by decide)) ?_
        refine g_icmp_ge (tgt := 102) (q := 17) C dX4_undo_14 rfl (by decide) (fun c_14 => absurd c_14 (by rw [I.nP]; exact nI_ge (by omega) (by omega))) (fun c_14 => ?_)
        refine g_aload_0 (q := 18) C dX4_undo_17 rfl ?_
        refine g_iload_2 (q := 19) C dX4_undo_18 rfl ?_
        refine g_bipush (v := 7) (q := 21) C dX4_undo_19 rfl (by decide) ?_
        refine g_cv2i (q := 24) C cv_X4_70 dX4_undo_21 rfl rfl (IM.d I _ (by decide) (by decide)) (m_X4_get I (k := 7) (by omega) rfl rfl) (by decide) (Nat.le_of_ble_eq_true rfl) ⟨Nat.zero_le _, Nat.zero_le _⟩ ?_
        refine g_iconst (v := (-1)) (q := 25) C dX4_undo_24 rfl (by decide) ?_
        refine g_icmp_ne (tgt := 31) (q := 28) C dX4_undo_25 rfl (by decide) (fun c_25 => ?_) (fun c_25 => ?_)
        · obtain ⟨i7, hi7, e7⟩ : ∃ i7, i7 < nF ∧ a0 102 (9 * i + 7) = nI i7 := h7.elim (fun h => absurd h c_25) id
          refine g_aload_0 (q := 32) C dX4_undo_31 rfl ?_
          refine g_aload_0 (q := 33) C dX4_undo_32 rfl ?_
          refine g_iload_2 (q := 34) C dX4_undo_33 rfl ?_
          refine g_bipush (v := 7) (q := 36) C dX4_undo_34 rfl (by decide) ?_
          refine g_cv2i (q := 39) C cv_X4_70 dX4_undo_36 rfl rfl (IM.d I _ (by decide) (by decide)) (m_X4_get I (k := 7) (by omega) rfl rfl) (by decide) (Nat.le_of_ble_eq_true rfl) ⟨Nat.zero_le _, Nat.zero_le _⟩ ?_
          rw [e7]
          refine g_bipush (v := 6) (q := 41) C dX4_undo_39 rfl (by decide) ?_
          refine g_cv2i (q := 44) C cv_X4_74 dX4_undo_41 rfl rfl (IM.d I _ (by decide) (by decide)) (m_X4_of7 I (k := 6) (by omega) rfl rfl) (by decide) (Nat.le_of_ble_eq_true rfl) ⟨Nat.zero_le _, Nat.zero_le _⟩ ?_
          refine g_if_ne (tgt := 77) (q := 47) C dX4_undo_44 rfl (by decide) (fun c_44 => ?_) (fun c_44 => ?_)
          · refine g_aload_0 (q := 78) C dX4_undo_77 rfl ?_
            refine g_iload_2 (q := 79) C dX4_undo_78 rfl ?_
            refine g_bipush (v := 7) (q := 81) C dX4_undo_79 rfl (by decide) ?_
            refine g_iconst (v := (-1)) (q := 82) C dX4_undo_81 rfl (by decide) ?_
            refine g_cv3v (q := 85) C cv_X4_106 dX4_undo_82 rfl rfl (IM.d I _ (by decide) (by decide)) (m_X4_put I (k := 7) (by omega) rfl rfl _) (by decide) (Nat.le_of_ble_eq_true rfl) ⟨Nat.zero_le _, Nat.zero_le _⟩ ?_
            have I := I.u (n := 102) (k := 9 * i + 7) (x := -1) (by decide)
            refine g_aload_0 (q := 86) C dX4_undo_85 rfl ?_
            refine g_iload_2 (q := 87) C dX4_undo_86 rfl ?_
            refine g_bipush (v := 8) (q := 89) C dX4_undo_87 rfl (by decide) ?_
            refine g_iconst (v := (-1)) (q := 90) C dX4_undo_89 rfl (by decide) ?_
            refine g_cv3v (q := 93) C cv_X4_106 dX4_undo_90 rfl rfl (IM.d I _ (by decide) (by decide)) (m_X4_put I (k := 8) (by omega) rfl rfl _) (by decide) (Nat.le_of_ble_eq_true rfl) ⟨Nat.zero_le _, Nat.zero_le _⟩ ?_
            refine g_iinc_1 (v := nI (acc + 1)) (q := 96) C dX4_undo_93 rfl (by rw [hN]; decide) (nI_1 acc) ?_
            refine g_iinc_2 (v := nI (i + 1)) (q := 99) C dX4_undo_96 rfl (by rw [hN]; decide) (nI_1 i) ?_
            refine g_goto (tgt := 9) C dX4_undo_99 (by decide) ?_
            first | exact DO (by first | exact unc_1 c_25 e7 (by omega) c_44 | exact unc_3 c_25 e7 (by omega) c_44 c_55 e8 (by omega) c_71) | exact SK (by first | exact unc_0 c_25 | exact unc_2 c_25 e7 (by omega) c_44 c_55 | exact unc_4 c_25 e7 (by omega) c_44 c_55 e8 (by omega) c_71)
          · refine g_aload_0 (q := 48) C dX4_undo_47 rfl ?_
            refine g_iload_2 (q := 49) C dX4_undo_48 rfl ?_
            refine g_bipush (v := 8) (q := 51) C dX4_undo_49 rfl (by decide) ?_
            refine g_cv2i (q := 54) C cv_X4_70 dX4_undo_51 rfl rfl (IM.d I _ (by decide) (by decide)) (m_X4_get I (k := 8) (by omega) rfl rfl) (by decide) (Nat.le_of_ble_eq_true rfl) ⟨Nat.zero_le _, Nat.zero_le _⟩ ?_
            refine g_iconst (v := (-1)) (q := 55) C dX4_undo_54 rfl (by decide) ?_
            refine g_icmp_eq (tgt := 96) (q := 58) C dX4_undo_55 rfl (by decide) (fun c_55 => ?_) (fun c_55 => ?_)
            · refine g_iinc_2 (v := nI (i + 1)) (q := 99) C dX4_undo_96 rfl (by rw [hN]; decide) (nI_1 i) ?_
              refine g_goto (tgt := 9) C dX4_undo_99 (by decide) ?_
              first | exact DO (by first | exact unc_1 c_25 e7 (by omega) c_44 | exact unc_3 c_25 e7 (by omega) c_44 c_55 e8 (by omega) c_71) | exact SK (by first | exact unc_0 c_25 | exact unc_2 c_25 e7 (by omega) c_44 c_55 | exact unc_4 c_25 e7 (by omega) c_44 c_55 e8 (by omega) c_71)
            · obtain ⟨i8, hi8, e8⟩ : ∃ i8, i8 < nF ∧ a0 102 (9 * i + 8) = nI i8 := h8.elim (fun h => absurd h c_55) id
              refine g_aload_0 (q := 59) C dX4_undo_58 rfl ?_
              refine g_aload_0 (q := 60) C dX4_undo_59 rfl ?_
              refine g_iload_2 (q := 61) C dX4_undo_60 rfl ?_
              refine g_bipush (v := 8) (q := 63) C dX4_undo_61 rfl (by decide) ?_
              refine g_cv2i (q := 66) C cv_X4_70 dX4_undo_63 rfl rfl (IM.d I _ (by decide) (by decide)) (m_X4_get I (k := 8) (by omega) rfl rfl) (by decide) (Nat.le_of_ble_eq_true rfl) ⟨Nat.zero_le _, Nat.zero_le _⟩ ?_
              rw [e8]
              refine g_bipush (v := 6) (q := 68) C dX4_undo_66 rfl (by decide) ?_
              refine g_cv2i (q := 71) C cv_X4_74 dX4_undo_68 rfl rfl (IM.d I _ (by decide) (by decide)) (m_X4_of7 I (k := 6) (by omega) rfl rfl) (by decide) (Nat.le_of_ble_eq_true rfl) ⟨Nat.zero_le _, Nat.zero_le _⟩ ?_
              refine g_if_ne (tgt := 77) (q := 74) C dX4_undo_71 rfl (by decide) (fun c_71 => ?_) (fun c_71 => ?_)
              · refine g_aload_0 (q := 78) C dX4_undo_77 rfl ?_
                refine g_iload_2 (q := 79) C dX4_undo_78 rfl ?_
                refine g_bipush (v := 7) (q := 81) C dX4_undo_79 rfl (by decide) ?_
                refine g_iconst (v := (-1)) (q := 82) C dX4_undo_81 rfl (by decide) ?_
                refine g_cv3v (q := 85) C cv_X4_106 dX4_undo_82 rfl rfl (IM.d I _ (by decide) (by decide)) (m_X4_put I (k := 7) (by omega) rfl rfl _) (by decide) (Nat.le_of_ble_eq_true rfl) ⟨Nat.zero_le _, Nat.zero_le _⟩ ?_
                have I := I.u (n := 102) (k := 9 * i + 7) (x := -1) (by decide)
                refine g_aload_0 (q := 86) C dX4_undo_85 rfl ?_
                refine g_iload_2 (q := 87) C dX4_undo_86 rfl ?_
                refine g_bipush (v := 8) (q := 89) C dX4_undo_87 rfl (by decide) ?_
                refine g_iconst (v := (-1)) (q := 90) C dX4_undo_89 rfl (by decide) ?_
                refine g_cv3v (q := 93) C cv_X4_106 dX4_undo_90 rfl rfl (IM.d I _ (by decide) (by decide)) (m_X4_put I (k := 8) (by omega) rfl rfl _) (by decide) (Nat.le_of_ble_eq_true rfl) ⟨Nat.zero_le _, Nat.zero_le _⟩ ?_
                refine g_iinc_1 (v := nI (acc + 1)) (q := 96) C dX4_undo_93 rfl (by rw [hN]; decide) (nI_1 acc) ?_
                refine g_iinc_2 (v := nI (i + 1)) (q := 99) C dX4_undo_96 rfl (by rw [hN]; decide) (nI_1 i) ?_
                refine g_goto (tgt := 9) C dX4_undo_99 (by decide) ?_
                first | exact DO (by first | exact unc_1 c_25 e7 (by omega) c_44 | exact unc_3 c_25 e7 (by omega) c_44 c_55 e8 (by omega) c_71) | exact SK (by first | exact unc_0 c_25 | exact unc_2 c_25 e7 (by omega) c_44 c_55 | exact unc_4 c_25 e7 (by omega) c_44 c_55 e8 (by omega) c_71)
              · refine g_goto (tgt := 96) C dX4_undo_74 (by decide) ?_
                refine g_iinc_2 (v := nI (i + 1)) (q := 99) C dX4_undo_96 rfl (by rw [hN]; decide) (nI_1 i) ?_
                refine g_goto (tgt := 9) C dX4_undo_99 (by decide) ?_
                first | exact DO (by first | exact unc_1 c_25 e7 (by omega) c_44 | exact unc_3 c_25 e7 (by omega) c_44 c_55 e8 (by omega) c_71) | exact SK (by first | exact unc_0 c_25 | exact unc_2 c_25 e7 (by omega) c_44 c_55 | exact unc_4 c_25 e7 (by omega) c_44 c_55 e8 (by omega) c_71)
        · refine g_goto (tgt := 96) C dX4_undo_28 (by decide) ?_
          refine g_iinc_2 (v := nI (i + 1)) (q := 99) C dX4_undo_96 rfl (by rw [hN]; decide) (nI_1 i) ?_
          refine g_goto (tgt := 9) C dX4_undo_99 (by decide) ?_
          first | exact DO (by first | exact unc_1 c_25 e7 (by omega) c_44 | exact unc_3 c_25 e7 (by omega) c_44 c_55 e8 (by omega) c_71) | exact SK (by first | exact unc_0 c_25 | exact unc_2 c_25 e7 (by omega) c_44 c_55 | exact unc_4 c_25 e7 (by omega) c_44 c_55 e8 (by omega) c_71)
    exact lp
  refine g_aload_0 (q := 1) C dX4_undo_0 rfl ?_
  refine g_iconst (v := 0) (q := 2) C dX4_undo_1 rfl (by decide) ?_
  refine g_puti (q := 5) C p_X4_52 dX4_undo_2 rfl rfl (IM.d I _ (by decide) (by decide)) rfl rfl ?_
  rw [← ha]
  have I : IM dm a1 nF nP := by rw [ha]; exact I.th
  refine g_iconst (v := 0) (q := 6) C dX4_undo_5 rfl (by decide) ?_
  refine g_istore_1 (q := 7) C dX4_undo_6 rfl (by rw [hN]; decide) rfl ?_
  refine g_iconst (v := 0) (q := 8) C dX4_undo_7 rfl (by decide) ?_
  refine g_istore_2 (q := 9) C dX4_undo_8 rfl (by rw [hN]; decide) rfl ?_
  exact lq I nP 0 0 _ (by omega) (by rw [unP]; exact up1_id.symm) rfl

end M12
end
section
section M13
variable {g : GM} {bs : Nat} {l : Launch} {ad : Nat → Nat} {dm : Nat → Bool} {a : Nat → Nat → Int32} {b : Nat → Nat → Int64} {r : Nat → Nat → Option Nat} {nF nP : Nat}
def flK (nF : Nat) (x1 x2 x3 x4 x5 x6 : Int32) : Bool := inR x1 0 7 && inR x2 0 7 && decide (x1 ≠ x2) && inR x3 0 9999 && inR x4 0 9999 && decide (x3 < x4) && inR x5 1 40 && inR x6 1 9999 && decide (nF < 8)
def pyK (nF nP : Nat) (x1 x2 x3 x4 : Int32) : Bool := fok nF x1 && inR x2 1 6 && inR x3 0 9 && inR x4 (-1) 999 && decide (nP < 20)
/-- a row with k places from w on written anew -/
def rwN (f : Nat → Int32) (w : Nat) (v : Nat → Int32) (k : Nat) : Nat → Int32 := fun j => if w ≤ j ∧ j < w + k then v (j - w) else f j
def v7 (x1 x2 x3 x4 x5 x6 : Int32) : Nat → Int32 := fun j => if j = 6 then 0 else if j = 5 then x6 else if j = 4 then x5 else if j = 3 then x4 else if j = 2 then x3 else if j = 1 then x2 else if j = 0 then x1 else 0
def v9 (x1 x2 x3 x4 z : Int32) : Nat → Int32 := fun j => if j = 8 then -1 else if j = 7 then -1 else if j = 6 then 0 else if j = 5 then 0 else if j = 4 then z else if j = 3 then x4 else if j = 2 then x3 else if j = 1 then x2 else if j = 0 then x1 else 0
theorem rwN_0 {f : Nat → Int32} {w : Nat} {v : Nat → Int32} : rwN f w v 0 = f := by
  funext j
  unfold rwN
  rw [if_neg (by omega)]
theorem rwN_s {f : Nat → Int32} {w k : Nat} {v : Nat → Int32} : (fun j => if j = w + k then v k else rwN f w v k j) = rwN f w v (k + 1) := by
  funext j
  by_cases h : j = w + k
  · subst h
    rw [if_pos rfl, rwN, if_pos (by omega), show w + k - w = k by omega]
  · rw [if_neg h]
    unfold rwN
    by_cases h2 : w ≤ j ∧ j < w + k
    · rw [if_pos h2, if_pos (by omega)]
    · rw [if_neg h2, if_neg (by omega)]
theorem upz_up {a : Nat → Nat → Int32} {n : Nat} : upz a n 0 = up1 a n (fun _ => 0) := by
  funext i j
  by_cases h : i = n <;> simp [upz, up1, h]
theorem IM.dmN {n : Nat} (h : IM dm a nF nP) (hn : 115 ≤ n) : IM (va_up dm n true) a nF nP := ⟨fun i h1 h2 => by rw [va_up_ne _ _ (by omega)]; exact h.1 i h1 h2, h.2⟩
theorem n_eq {x : Int32} {n m : Nat} (h : x = nI n) (h2 : x = nI m) (hn : n < 100) (hm : m < 100) : n = m := (nI_eq (by omega) (by omega)).mp (h.symm.trans h2)
theorem fin_eq {V F : Nat → Int32} {x : Int32} {n w k j : Nat} (hj : j ≠ n) (hw : w ≠ 100) : u2 (up1 (up1 a n V) w F) 100 k x j = up1 (u2 a 100 k x) w F j := by
  funext i
  by_cases h1 : j = 100
  · subst h1
    simp [u2, up1, hj, Ne.symm hw]
  · by_cases h2 : j = w <;> simp [u2, up1, h1, h2, hj, hw]
theorem dm_up {n j : Nat} (hn : dm n = false) (hj : dm j = true) : va_up dm n true j = true := by
  rw [va_up_ne _ _ (fun e => by rw [e, hn] at hj; cases hj)]
  exact hj
theorem up1_id' {V : Nat → Int32} {n w : Nat} (h : w ≠ n) : up1 (up1 a n V) w (a w) = up1 a n V := by
  rw [show a w = up1 a n V w by simp [up1, h], up1_id]
set_option maxHeartbeats 4000000 in
set_option maxRecDepth 100000 in
theorem m_X4_flight (I : IM dm a nF nP) {a1 : Nat → Nat → Int32} (ha : a1 = u2 a 100 5 0) (hn : dm 118 = false) (hR : NR r) (x1 x2 x3 x4 x5 x6 : Int32) : MT g bs l yX4_flight cX4_flight 9 (some .int) 3 1 7 [.ref (ad 100), .int x1, .int x2, .int x3, .int x4, .int x5, .int x6] ad dm a b r (fun v ad0 dm0 a0 b0 r0 => ad0 = ad ∧ dm0 = dm ∧ b0 = b ∧ r0 = r ∧ ((flK nF x1 x2 x3 x4 x5 x6 = true ∧ a0 = (up1 (u2 a1 100 1 (nI (nF + 1))) 101 (rwN (a1 101) (7 * nF) (v7 x1 x2 x3 x4 x5 x6) 7)) ∧ v = some (.int (nI nF))) ∨ (flK nF x1 x2 x3 x4 x5 x6 = false ∧ a0 = a1 ∧ v = some (.int (-1))))) := by
  refine mt_of (by decide) [some (.ref (ad 100)), some (.int x1), some (.int x2), some (.int x3), some (.int x4), some (.int x5), some (.int x6), none, none] rfl (Nat.le_of_ble_eq_true rfl) ?_
  intro E hg hbs hl hN C RT9 hcells hslots hname
  have hnF := I.2.2.1
  have hnP := I.2.2.2.2
  have lq : IM dm a1 nF nP → flK nF x1 x2 x3 x4 x5 x6 = true → nF < 8 → ∀ ad1 : Nat → Nat, (∀ m, m ≠ 118 → ad1 m = ad m) → ∀ (k i : Nat) (a0 : Nat → Nat → Int32), i + k = 7 → a0 = up1 (up1 a1 118 (v7 x1 x2 x3 x4 x5 x6)) 101 (rwN (a1 101) (7 * nF) (v7 x1 x2 x3 x4 x5 x6) i) → G E 1 7 ad1 (va_up dm 118 true) a0 b r 134 [some (.ref (ad1 100)), some (.int x1), some (.int x2), some (.int x3), some (.int x4), some (.int x5), some (.int x6), some (.ref (ad1 118)), some (.int (nI i))] [] := by
    intro I hok hlt ad1 had k
    induction k with
    | zero =>
      intro i a0 hi h0
      have I := ((I.dmN (n := 118) (by decide)).up (n := 118) (f := (v7 x1 x2 x3 x4 x5 x6)) (by decide)).up (n := 101) (f := rwN (a1 101) (7 * nF) (v7 x1 x2 x3 x4 x5 x6) i) (by decide)
      rw [← h0] at I
      refine g_iload_8 (q := 136) C dX4_flight_134 rfl ?_
      refine g_bipush (v := 7) (q := 138) C dX4_flight_136 rfl (by decide) ?_
      refine g_icmp_ge (tgt := 167) (q := 141) C dX4_flight_138 rfl (by decide) (fun c_138 => ?_) (fun c_138 => absurd (nI_le (a := 7) (by omega) (by omega)) c_138)
      refine g_aload_0 (q := 168) C dX4_flight_167 rfl ?_
      refine g_dup (q := 169) C dX4_flight_168 rfl rfl ?_
      refine g_geti (q := 172) C f_X4_56 dX4_flight_169 rfl rfl (IM.d I _ (by decide) (by decide)) ?_
      refine g_iconst (v := 1) (q := 173) C dX4_flight_172 rfl (by decide) ?_
      refine g_iadd (q := 174) C dX4_flight_173 rfl ?_
      refine g_puti (q := 177) C p_X4_56 dX4_flight_174 rfl rfl (IM.d I _ (by decide) (by decide)) rfl rfl ?_
      refine g_aload_0 (q := 178) C dX4_flight_177 rfl ?_
      refine g_geti (q := 181) C f_X4_56 dX4_flight_178 rfl rfl (IM.d I _ (by decide) (by decide)) ?_
      refine g_iconst (v := 1) (q := 182) C dX4_flight_181 rfl (by decide) ?_
      refine g_isub (q := 183) C dX4_flight_182 rfl ?_
      rw [u2_s, I.nF, nI_1, show nI (nF + 1) - 1 = nI nF from nI_pred nF]
      refine g_fin (n := 118) (ad0 := ad) (dm0 := dm) (a0 := (up1 (u2 a1 100 1 (nI (nF + 1))) 101 (rwN (a1 101) (7 * nF) (v7 x1 x2 x3 x4 x5 x6) 7))) (b0 := b) (r0 := r) hn (fun j hj => ⟨dm_up hn hj, ?_, rfl, rfl⟩) had (kds_far (by decide)) (hR.no (by decide)) ?_
      · rw [h0, show i = 7 by omega]
        exact fin_eq (fun e => by rw [e, hn] at hj; cases hj) (by decide)
      exact g_iret C RT9 dX4_flight_183 ⟨rfl, rfl, rfl, rfl, Or.inl ⟨hok, rfl, rfl⟩⟩
    | succ k ih =>
      intro i a0 hi h0
      have I := ((I.dmN (n := 118) (by decide)).up (n := 118) (f := (v7 x1 x2 x3 x4 x5 x6)) (by decide)).up (n := 101) (f := rwN (a1 101) (7 * nF) (v7 x1 x2 x3 x4 x5 x6) i) (by decide)
      rw [← h0] at I
      refine g_iload_8 (q := 136) C dX4_flight_134 rfl ?_
      refine g_bipush (v := 7) (q := 138) C dX4_flight_136 rfl (by decide) ?_
      refine g_icmp_ge (tgt := 167) (q := 141) C dX4_flight_138 rfl (by decide) (fun c_138 => absurd c_138 (nI_ge (b := 7) (by omega) (by omega))) (fun c_138 => ?_)
      refine g_aload_0 (q := 142) C dX4_flight_141 rfl ?_
      refine g_getc (q := 145) (m := 101) C f_X4_9 dX4_flight_142 rfl rfl (IM.d I _ (by decide) (by decide)) ?_
      refine g_bipush (v := 7) (q := 147) C dX4_flight_145 rfl (by decide) ?_
      refine g_aload_0 (q := 148) C dX4_flight_147 rfl ?_
      refine g_geti (q := 151) C f_X4_56 dX4_flight_148 rfl rfl (IM.d I _ (by decide) (by decide)) ?_
      refine g_imul (q := 152) C dX4_flight_151 rfl ?_
      refine g_iload_8 (q := 154) C dX4_flight_152 rfl ?_
      refine g_iadd (q := 155) C dX4_flight_154 rfl ?_
      refine g_aload_7 (q := 157) C dX4_flight_155 rfl ?_
      refine g_iload_8 (q := 159) C dX4_flight_157 rfl ?_
      refine g_ia (q := 160) C dX4_flight_159 rfl rfl (by rw [va_up_self]) rfl (by omega) (by decide) ?_
      refine g_iast (q := 161) C dX4_flight_160 rfl rfl (IM.d I _ (by decide) (by decide)) (by rw [I.nF]; exact ix7 nF i) (by omega) (by decide) ?_
      refine g_iinc_8 (v := nI (i + 1)) (q := 164) C dX4_flight_161 rfl (by rw [hN]; decide) (nI_1 i) ?_
      refine g_goto (tgt := 134) C dX4_flight_164 (by decide) ?_
      exact ih (i + 1) _ (by omega) (by rw [h0, u2_up, show up1 (up1 a1 118 (v7 x1 x2 x3 x4 x5 x6)) 101 (rwN (a1 101) (7 * nF) (v7 x1 x2 x3 x4 x5 x6) i) 118 i = (v7 x1 x2 x3 x4 x5 x6) i from rfl, rwN_s])
  refine g_aload_0 (q := 1) C dX4_flight_0 rfl ?_
  refine g_iconst (v := 0) (q := 2) C dX4_flight_1 rfl (by decide) ?_
  refine g_puti (q := 5) C p_X4_52 dX4_flight_2 rfl rfl (IM.d I _ (by decide) (by decide)) rfl rfl ?_
  rw [← ha]
  have I : IM dm a1 nF nP := by rw [ha]; exact I.th
  refine g_iload_1 (q := 6) C dX4_flight_5 rfl ?_
  refine g_iconst (v := 0) (q := 7) C dX4_flight_6 rfl (by decide) ?_
  refine g_bipush (v := 7) (q := 9) C dX4_flight_7 rfl (by decide) ?_
  refine g_cs3i (q := 12) C cs_X4_59 dX4_flight_9 rfl (m_X4_in _ _ _) (by decide) (Nat.le_of_ble_eq_true rfl) ⟨Nat.zero_le _, Nat.zero_le _⟩ ?_
  refine g_ifeqb (tgt := 91) (q := 15) C dX4_flight_12 rfl (by decide) (fun c_12 => ?_) (fun c_12 => ?_)
  · refine g_iconst (v := (-1)) (q := 92) C dX4_flight_91 rfl (by decide) ?_
    refine g_wide (cl' := 1) (sl' := 7) (by decide) (by decide) ?_
    exact g_iret C RT9 dX4_flight_92 ⟨rfl, rfl, rfl, rfl, Or.inr ⟨by first | (simp [flK, c_12, c_22, c_27, c_38, c_50, Int32.not_le.mp c_56, c_67, c_79, n_eq I.nF c_88 (by omega) (by decide)]; done) | (simp [flK, c_12, c_22, c_27, c_38, c_50, Int32.not_le.mp c_56, c_67, c_79]; done) | (simp [flK, c_12, c_22, c_27, c_38, c_50, Int32.not_le.mp c_56, c_67]; done) | (simp [flK, c_12, c_22, c_27, c_38, c_50, Int32.not_lt.mpr c_56]; done) | (simp [flK, c_12, c_22, c_27, c_38, c_50]; done) | (simp [flK, c_12, c_22, c_27, c_38]; done) | (simp [flK, c_12, c_22, c_27]; done) | (simp [flK, c_12, c_22]; done) | (simp [flK, c_12]; done), rfl, rfl⟩⟩
  · refine g_iload_2 (q := 16) C dX4_flight_15 rfl ?_
    refine g_iconst (v := 0) (q := 17) C dX4_flight_16 rfl (by decide) ?_
    refine g_bipush (v := 7) (q := 19) C dX4_flight_17 rfl (by decide) ?_
    refine g_cs3i (q := 22) C cs_X4_59 dX4_flight_19 rfl (m_X4_in _ _ _) (by decide) (Nat.le_of_ble_eq_true rfl) ⟨Nat.zero_le _, Nat.zero_le _⟩ ?_
    refine g_ifeqb (tgt := 91) (q := 25) C dX4_flight_22 rfl (by decide) (fun c_22 => ?_) (fun c_22 => ?_)
    · refine g_iconst (v := (-1)) (q := 92) C dX4_flight_91 rfl (by decide) ?_
      refine g_wide (cl' := 1) (sl' := 7) (by decide) (by decide) ?_
      exact g_iret C RT9 dX4_flight_92 ⟨rfl, rfl, rfl, rfl, Or.inr ⟨by first | (simp [flK, c_12, c_22, c_27, c_38, c_50, Int32.not_le.mp c_56, c_67, c_79, n_eq I.nF c_88 (by omega) (by decide)]; done) | (simp [flK, c_12, c_22, c_27, c_38, c_50, Int32.not_le.mp c_56, c_67, c_79]; done) | (simp [flK, c_12, c_22, c_27, c_38, c_50, Int32.not_le.mp c_56, c_67]; done) | (simp [flK, c_12, c_22, c_27, c_38, c_50, Int32.not_lt.mpr c_56]; done) | (simp [flK, c_12, c_22, c_27, c_38, c_50]; done) | (simp [flK, c_12, c_22, c_27, c_38]; done) | (simp [flK, c_12, c_22, c_27]; done) | (simp [flK, c_12, c_22]; done) | (simp [flK, c_12]; done), rfl, rfl⟩⟩
    · refine g_iload_1 (q := 26) C dX4_flight_25 rfl ?_
      refine g_iload_2 (q := 27) C dX4_flight_26 rfl ?_
      refine g_icmp_eq (tgt := 91) (q := 30) C dX4_flight_27 rfl (by decide) (fun c_27 => ?_) (fun c_27 => ?_)
      · refine g_iconst (v := (-1)) (q := 92) C dX4_flight_91 rfl (by decide) ?_
        refine g_wide (cl' := 1) (sl' := 7) (by decide) (by decide) ?_
        exact g_iret C RT9 dX4_flight_92 ⟨rfl, rfl, rfl, rfl, Or.inr ⟨by first | (simp [flK, c_12, c_22, c_27, c_38, c_50, Int32.not_le.mp c_56, c_67, c_79, n_eq I.nF c_88 (by omega) (by decide)]; done) | (simp [flK, c_12, c_22, c_27, c_38, c_50, Int32.not_le.mp c_56, c_67, c_79]; done) | (simp [flK, c_12, c_22, c_27, c_38, c_50, Int32.not_le.mp c_56, c_67]; done) | (simp [flK, c_12, c_22, c_27, c_38, c_50, Int32.not_lt.mpr c_56]; done) | (simp [flK, c_12, c_22, c_27, c_38, c_50]; done) | (simp [flK, c_12, c_22, c_27, c_38]; done) | (simp [flK, c_12, c_22, c_27]; done) | (simp [flK, c_12, c_22]; done) | (simp [flK, c_12]; done), rfl, rfl⟩⟩
      · refine g_iload_3 (q := 31) C dX4_flight_30 rfl ?_
        refine g_iconst (v := 0) (q := 32) C dX4_flight_31 rfl (by decide) ?_
        refine g_sipush (v := 9999) (q := 35) C dX4_flight_32 rfl (by decide) ?_
        refine g_cs3i (q := 38) C cs_X4_59 dX4_flight_35 rfl (m_X4_in _ _ _) (by decide) (Nat.le_of_ble_eq_true rfl) ⟨Nat.zero_le _, Nat.zero_le _⟩ ?_
        refine g_ifeqb (tgt := 91) (q := 41) C dX4_flight_38 rfl (by decide) (fun c_38 => ?_) (fun c_38 => ?_)
        · refine g_iconst (v := (-1)) (q := 92) C dX4_flight_91 rfl (by decide) ?_
          refine g_wide (cl' := 1) (sl' := 7) (by decide) (by decide) ?_
          exact g_iret C RT9 dX4_flight_92 ⟨rfl, rfl, rfl, rfl, Or.inr ⟨by first | (simp [flK, c_12, c_22, c_27, c_38, c_50, Int32.not_le.mp c_56, c_67, c_79, n_eq I.nF c_88 (by omega) (by decide)]; done) | (simp [flK, c_12, c_22, c_27, c_38, c_50, Int32.not_le.mp c_56, c_67, c_79]; done) | (simp [flK, c_12, c_22, c_27, c_38, c_50, Int32.not_le.mp c_56, c_67]; done) | (simp [flK, c_12, c_22, c_27, c_38, c_50, Int32.not_lt.mpr c_56]; done) | (simp [flK, c_12, c_22, c_27, c_38, c_50]; done) | (simp [flK, c_12, c_22, c_27, c_38]; done) | (simp [flK, c_12, c_22, c_27]; done) | (simp [flK, c_12, c_22]; done) | (simp [flK, c_12]; done), rfl, rfl⟩⟩
        · refine g_iload_4 (q := 43) C dX4_flight_41 rfl ?_
          refine g_iconst (v := 0) (q := 44) C dX4_flight_43 rfl (by decide) ?_
          refine g_sipush (v := 9999) (q := 47) C dX4_flight_44 rfl (by decide) ?_
          refine g_cs3i (q := 50) C cs_X4_59 dX4_flight_47 rfl (m_X4_in _ _ _) (by decide) (Nat.le_of_ble_eq_true rfl) ⟨Nat.zero_le _, Nat.zero_le _⟩ ?_
          refine g_ifeqb (tgt := 91) (q := 53) C dX4_flight_50 rfl (by decide) (fun c_50 => ?_) (fun c_50 => ?_)
          · refine g_iconst (v := (-1)) (q := 92) C dX4_flight_91 rfl (by decide) ?_
            refine g_wide (cl' := 1) (sl' := 7) (by decide) (by decide) ?_
            exact g_iret C RT9 dX4_flight_92 ⟨rfl, rfl, rfl, rfl, Or.inr ⟨by first | (simp [flK, c_12, c_22, c_27, c_38, c_50, Int32.not_le.mp c_56, c_67, c_79, n_eq I.nF c_88 (by omega) (by decide)]; done) | (simp [flK, c_12, c_22, c_27, c_38, c_50, Int32.not_le.mp c_56, c_67, c_79]; done) | (simp [flK, c_12, c_22, c_27, c_38, c_50, Int32.not_le.mp c_56, c_67]; done) | (simp [flK, c_12, c_22, c_27, c_38, c_50, Int32.not_lt.mpr c_56]; done) | (simp [flK, c_12, c_22, c_27, c_38, c_50]; done) | (simp [flK, c_12, c_22, c_27, c_38]; done) | (simp [flK, c_12, c_22, c_27]; done) | (simp [flK, c_12, c_22]; done) | (simp [flK, c_12]; done), rfl, rfl⟩⟩
          · refine g_iload_3 (q := 54) C dX4_flight_53 rfl ?_
            refine g_iload_4 (q := 56) C dX4_flight_54 rfl ?_
            refine g_icmp_ge (tgt := 91) (q := 59) C dX4_flight_56 rfl (by decide) (fun c_56 => ?_) (fun c_56 => ?_)
            · refine g_iconst (v := (-1)) (q := 92) C dX4_flight_91 rfl (by decide) ?_
              refine g_wide (cl' := 1) (sl' := 7) (by decide) (by decide) ?_
              exact g_iret C RT9 dX4_flight_92 ⟨rfl, rfl, rfl, rfl, Or.inr ⟨by first | (simp [flK, c_12, c_22, c_27, c_38, c_50, Int32.not_le.mp c_56, c_67, c_79, n_eq I.nF c_88 (by omega) (by decide)]; done) | (simp [flK, c_12, c_22, c_27, c_38, c_50, Int32.not_le.mp c_56, c_67, c_79]; done) | (simp [flK, c_12, c_22, c_27, c_38, c_50, Int32.not_le.mp c_56, c_67]; done) | (simp [flK, c_12, c_22, c_27, c_38, c_50, Int32.not_lt.mpr c_56]; done) | (simp [flK, c_12, c_22, c_27, c_38, c_50]; done) | (simp [flK, c_12, c_22, c_27, c_38]; done) | (simp [flK, c_12, c_22, c_27]; done) | (simp [flK, c_12, c_22]; done) | (simp [flK, c_12]; done), rfl, rfl⟩⟩
            · refine g_iload_5 (q := 61) C dX4_flight_59 rfl ?_
              refine g_iconst (v := 1) (q := 62) C dX4_flight_61 rfl (by decide) ?_
              refine g_bipush (v := 40) (q := 64) C dX4_flight_62 rfl (by decide) ?_
              refine g_cs3i (q := 67) C cs_X4_59 dX4_flight_64 rfl (m_X4_in _ _ _) (by decide) (Nat.le_of_ble_eq_true rfl) ⟨Nat.zero_le _, Nat.zero_le _⟩ ?_
              refine g_ifeqb (tgt := 91) (q := 70) C dX4_flight_67 rfl (by decide) (fun c_67 => ?_) (fun c_67 => ?_)
              · refine g_iconst (v := (-1)) (q := 92) C dX4_flight_91 rfl (by decide) ?_
                refine g_wide (cl' := 1) (sl' := 7) (by decide) (by decide) ?_
                exact g_iret C RT9 dX4_flight_92 ⟨rfl, rfl, rfl, rfl, Or.inr ⟨by first | (simp [flK, c_12, c_22, c_27, c_38, c_50, Int32.not_le.mp c_56, c_67, c_79, n_eq I.nF c_88 (by omega) (by decide)]; done) | (simp [flK, c_12, c_22, c_27, c_38, c_50, Int32.not_le.mp c_56, c_67, c_79]; done) | (simp [flK, c_12, c_22, c_27, c_38, c_50, Int32.not_le.mp c_56, c_67]; done) | (simp [flK, c_12, c_22, c_27, c_38, c_50, Int32.not_lt.mpr c_56]; done) | (simp [flK, c_12, c_22, c_27, c_38, c_50]; done) | (simp [flK, c_12, c_22, c_27, c_38]; done) | (simp [flK, c_12, c_22, c_27]; done) | (simp [flK, c_12, c_22]; done) | (simp [flK, c_12]; done), rfl, rfl⟩⟩
              · refine g_iload_6 (q := 72) C dX4_flight_70 rfl ?_
                refine g_iconst (v := 1) (q := 73) C dX4_flight_72 rfl (by decide) ?_
                refine g_sipush (v := 9999) (q := 76) C dX4_flight_73 rfl (by decide) ?_
                refine g_cs3i (q := 79) C cs_X4_59 dX4_flight_76 rfl (m_X4_in _ _ _) (by decide) (Nat.le_of_ble_eq_true rfl) ⟨Nat.zero_le _, Nat.zero_le _⟩ ?_
                refine g_ifeqb (tgt := 91) (q := 82) C dX4_flight_79 rfl (by decide) (fun c_79 => ?_) (fun c_79 => ?_)
                · refine g_iconst (v := (-1)) (q := 92) C dX4_flight_91 rfl (by decide) ?_
                  refine g_wide (cl' := 1) (sl' := 7) (by decide) (by decide) ?_
                  exact g_iret C RT9 dX4_flight_92 ⟨rfl, rfl, rfl, rfl, Or.inr ⟨by first | (simp [flK, c_12, c_22, c_27, c_38, c_50, Int32.not_le.mp c_56, c_67, c_79, n_eq I.nF c_88 (by omega) (by decide)]; done) | (simp [flK, c_12, c_22, c_27, c_38, c_50, Int32.not_le.mp c_56, c_67, c_79]; done) | (simp [flK, c_12, c_22, c_27, c_38, c_50, Int32.not_le.mp c_56, c_67]; done) | (simp [flK, c_12, c_22, c_27, c_38, c_50, Int32.not_lt.mpr c_56]; done) | (simp [flK, c_12, c_22, c_27, c_38, c_50]; done) | (simp [flK, c_12, c_22, c_27, c_38]; done) | (simp [flK, c_12, c_22, c_27]; done) | (simp [flK, c_12, c_22]; done) | (simp [flK, c_12]; done), rfl, rfl⟩⟩
                · refine g_aload_0 (q := 83) C dX4_flight_82 rfl ?_
                  refine g_geti (q := 86) C f_X4_56 dX4_flight_83 rfl rfl (IM.d I _ (by decide) (by decide)) ?_
                  refine g_bipush (v := 8) (q := 88) C dX4_flight_86 rfl (by decide) ?_
                  refine g_icmp_ne (tgt := 93) (q := 91) C dX4_flight_88 rfl (by decide) (fun c_88 => ?_) (fun c_88 => ?_)
                  · have h88 : nF < 8 := by
                      rcases Nat.lt_or_ge nF 8 with h | h
                      · exact h
                      · exact absurd (by rw [I.nF, show nF = 8 by omega]; rfl) c_88
                    refine g_bipush (v := 7) (q := 95) C dX4_flight_93 rfl (by decide) ?_
                    refine g_newi (n := 118) (N := 7) (q := 97) C dX4_flight_95 rfl ac_I rfl hn (kds_far (by decide)) (hR.no (by decide)) rfl (by decide) ⟨by rw [hcells]; decide, by rw [hslots]; decide⟩ (fun ad1 had => ?_)
                    rw [← had 100 (by decide)]
                    refine g_dup (q := 98) C dX4_flight_97 rfl rfl ?_
                    refine g_iconst (v := 0) (q := 99) C dX4_flight_98 rfl (by decide) ?_
                    refine g_iload_1 (q := 100) C dX4_flight_99 rfl ?_
                    refine g_iast (q := 101) C dX4_flight_100 rfl rfl (by rw [va_up_self]) (show _ = nI 0 from rfl) (by decide) (by decide) ?_
                    refine g_dup (q := 102) C dX4_flight_101 rfl rfl ?_
                    refine g_iconst (v := 1) (q := 103) C dX4_flight_102 rfl (by decide) ?_
                    refine g_iload_2 (q := 104) C dX4_flight_103 rfl ?_
                    refine g_iast (q := 105) C dX4_flight_104 rfl rfl (by rw [va_up_self]) (show _ = nI 1 from rfl) (by decide) (by decide) ?_
                    refine g_dup (q := 106) C dX4_flight_105 rfl rfl ?_
                    refine g_iconst (v := 2) (q := 107) C dX4_flight_106 rfl (by decide) ?_
                    refine g_iload_3 (q := 108) C dX4_flight_107 rfl ?_
                    refine g_iast (q := 109) C dX4_flight_108 rfl rfl (by rw [va_up_self]) (show _ = nI 2 from rfl) (by decide) (by decide) ?_
                    refine g_dup (q := 110) C dX4_flight_109 rfl rfl ?_
                    refine g_iconst (v := 3) (q := 111) C dX4_flight_110 rfl (by decide) ?_
                    refine g_iload_4 (q := 113) C dX4_flight_111 rfl ?_
                    refine g_iast (q := 114) C dX4_flight_113 rfl rfl (by rw [va_up_self]) (show _ = nI 3 from rfl) (by decide) (by decide) ?_
                    refine g_dup (q := 115) C dX4_flight_114 rfl rfl ?_
                    refine g_iconst (v := 4) (q := 116) C dX4_flight_115 rfl (by decide) ?_
                    refine g_iload_5 (q := 118) C dX4_flight_116 rfl ?_
                    refine g_iast (q := 119) C dX4_flight_118 rfl rfl (by rw [va_up_self]) (show _ = nI 4 from rfl) (by decide) (by decide) ?_
                    refine g_dup (q := 120) C dX4_flight_119 rfl rfl ?_
                    refine g_iconst (v := 5) (q := 121) C dX4_flight_120 rfl (by decide) ?_
                    refine g_iload_6 (q := 123) C dX4_flight_121 rfl ?_
                    refine g_iast (q := 124) C dX4_flight_123 rfl rfl (by rw [va_up_self]) (show _ = nI 5 from rfl) (by decide) (by decide) ?_
                    refine g_dup (q := 125) C dX4_flight_124 rfl rfl ?_
                    refine g_bipush (v := 6) (q := 127) C dX4_flight_125 rfl (by decide) ?_
                    refine g_iconst (v := 0) (q := 128) C dX4_flight_127 rfl (by decide) ?_
                    refine g_iast (q := 129) C dX4_flight_128 rfl rfl (by rw [va_up_self]) (show _ = nI 6 from rfl) (by decide) (by decide) ?_
                    refine g_astore_7 (q := 131) C dX4_flight_129 rfl (by rw [hN]; decide) rfl ?_
                    refine g_iconst (v := 0) (q := 132) C dX4_flight_131 rfl (by decide) ?_
                    refine g_istore_8 (q := 134) C dX4_flight_132 rfl (by rw [hN]; decide) rfl ?_
                    exact lq I (by simp [flK, c_12, c_22, c_27, c_38, c_50, Int32.not_le.mp c_56, c_67, c_79, h88]) h88 ad1 had 7 0 _ (by omega) (by rw [upz_up, u2_up, u2_up, u2_up, u2_up, u2_up, u2_up, u2_up, rwN_0, up1_id' (by decide)]; rfl)
                  · refine g_iconst (v := (-1)) (q := 92) C dX4_flight_91 rfl (by decide) ?_
                    refine g_wide (cl' := 1) (sl' := 7) (by decide) (by decide) ?_
                    exact g_iret C RT9 dX4_flight_92 ⟨rfl, rfl, rfl, rfl, Or.inr ⟨by first | (simp [flK, c_12, c_22, c_27, c_38, c_50, Int32.not_le.mp c_56, c_67, c_79, n_eq I.nF c_88 (by omega) (by decide)]; done) | (simp [flK, c_12, c_22, c_27, c_38, c_50, Int32.not_le.mp c_56, c_67, c_79]; done) | (simp [flK, c_12, c_22, c_27, c_38, c_50, Int32.not_le.mp c_56, c_67]; done) | (simp [flK, c_12, c_22, c_27, c_38, c_50, Int32.not_lt.mpr c_56]; done) | (simp [flK, c_12, c_22, c_27, c_38, c_50]; done) | (simp [flK, c_12, c_22, c_27, c_38]; done) | (simp [flK, c_12, c_22, c_27]; done) | (simp [flK, c_12, c_22]; done) | (simp [flK, c_12]; done), rfl, rfl⟩⟩

set_option maxHeartbeats 4000000 in
set_option maxRecDepth 100000 in
theorem m_X4_party (I : IM dm a nF nP) {a1 : Nat → Nat → Int32} (ha : a1 = u2 a 100 5 0) (hn : dm 119 = false) (hR : NR r) (x1 x2 x3 x4 z : Int32) : MT g bs l yX4_party cX4_party 8 (some .int) 3 1 9 [.ref (ad 100), .int x1, .int x2, .int x3, .int x4, .int z] ad dm a b r (fun v ad0 dm0 a0 b0 r0 => ad0 = ad ∧ dm0 = dm ∧ b0 = b ∧ r0 = r ∧ ((pyK nF nP x1 x2 x3 x4 = true ∧ a0 = (up1 (u2 a1 100 3 (nI (nP + 1))) 102 (rwN (a1 102) (9 * nP) (v9 x1 x2 x3 x4 (if z = 0 then 0 else 1)) 9)) ∧ v = some (.int (nI nP))) ∨ (pyK nF nP x1 x2 x3 x4 = false ∧ a0 = a1 ∧ v = some (.int (-1))))) := by
  refine mt_of (by decide) [some (.ref (ad 100)), some (.int x1), some (.int x2), some (.int x3), some (.int x4), some (.int z), none, none] rfl (Nat.le_of_ble_eq_true rfl) ?_
  intro E hg hbs hl hN C RT9 hcells hslots hname
  have hnF := I.2.2.1
  have hnP := I.2.2.2.2
  have lq : IM dm a1 nF nP → pyK nF nP x1 x2 x3 x4 = true → nP < 20 → ∀ ad1 : Nat → Nat, (∀ m, m ≠ 119 → ad1 m = ad m) → ∀ (k i : Nat) (a0 : Nat → Nat → Int32), i + k = 9 → a0 = up1 (up1 a1 119 (v9 x1 x2 x3 x4 (if z = 0 then 0 else 1))) 102 (rwN (a1 102) (9 * nP) (v9 x1 x2 x3 x4 (if z = 0 then 0 else 1)) i) → G E 1 9 ad1 (va_up dm 119 true) a0 b r 114 [some (.ref (ad1 100)), some (.int x1), some (.int x2), some (.int x3), some (.int x4), some (.int z), some (.ref (ad1 119)), some (.int (nI i))] [] := by
    intro I hok hlt ad1 had k
    induction k with
    | zero =>
      intro i a0 hi h0
      have I := ((I.dmN (n := 119) (by decide)).up (n := 119) (f := (v9 x1 x2 x3 x4 (if z = 0 then 0 else 1))) (by decide)).up (n := 102) (f := rwN (a1 102) (9 * nP) (v9 x1 x2 x3 x4 (if z = 0 then 0 else 1)) i) (by decide)
      rw [← h0] at I
      refine g_iload_7 (q := 116) C dX4_party_114 rfl ?_
      refine g_bipush (v := 9) (q := 118) C dX4_party_116 rfl (by decide) ?_
      refine g_icmp_ge (tgt := 147) (q := 121) C dX4_party_118 rfl (by decide) (fun c_118 => ?_) (fun c_118 => absurd (nI_le (a := 9) (by omega) (by omega)) c_118)
      refine g_aload_0 (q := 148) C dX4_party_147 rfl ?_
      refine g_dup (q := 149) C dX4_party_148 rfl rfl ?_
      refine g_geti (q := 152) C f_X4_63 dX4_party_149 rfl rfl (IM.d I _ (by decide) (by decide)) ?_
      refine g_iconst (v := 1) (q := 153) C dX4_party_152 rfl (by decide) ?_
      refine g_iadd (q := 154) C dX4_party_153 rfl ?_
      refine g_puti (q := 157) C p_X4_63 dX4_party_154 rfl rfl (IM.d I _ (by decide) (by decide)) rfl rfl ?_
      refine g_aload_0 (q := 158) C dX4_party_157 rfl ?_
      refine g_geti (q := 161) C f_X4_63 dX4_party_158 rfl rfl (IM.d I _ (by decide) (by decide)) ?_
      refine g_iconst (v := 1) (q := 162) C dX4_party_161 rfl (by decide) ?_
      refine g_isub (q := 163) C dX4_party_162 rfl ?_
      rw [u2_s, I.nP, nI_1, show nI (nP + 1) - 1 = nI nP from nI_pred nP]
      refine g_fin (n := 119) (ad0 := ad) (dm0 := dm) (a0 := (up1 (u2 a1 100 3 (nI (nP + 1))) 102 (rwN (a1 102) (9 * nP) (v9 x1 x2 x3 x4 (if z = 0 then 0 else 1)) 9))) (b0 := b) (r0 := r) hn (fun j hj => ⟨dm_up hn hj, ?_, rfl, rfl⟩) had (kds_far (by decide)) (hR.no (by decide)) ?_
      · rw [h0, show i = 9 by omega]
        exact fin_eq (fun e => by rw [e, hn] at hj; cases hj) (by decide)
      exact g_iret C RT9 dX4_party_163 ⟨rfl, rfl, rfl, rfl, Or.inl ⟨hok, rfl, rfl⟩⟩
    | succ k ih =>
      intro i a0 hi h0
      have I := ((I.dmN (n := 119) (by decide)).up (n := 119) (f := (v9 x1 x2 x3 x4 (if z = 0 then 0 else 1))) (by decide)).up (n := 102) (f := rwN (a1 102) (9 * nP) (v9 x1 x2 x3 x4 (if z = 0 then 0 else 1)) i) (by decide)
      rw [← h0] at I
      refine g_iload_7 (q := 116) C dX4_party_114 rfl ?_
      refine g_bipush (v := 9) (q := 118) C dX4_party_116 rfl (by decide) ?_
      refine g_icmp_ge (tgt := 147) (q := 121) C dX4_party_118 rfl (by decide) (fun c_118 => absurd c_118 (nI_ge (b := 9) (by omega) (by omega))) (fun c_118 => ?_)
      refine g_aload_0 (q := 122) C dX4_party_121 rfl ?_
      refine g_getc (q := 125) (m := 102) C f_X4_13 dX4_party_122 rfl rfl (IM.d I _ (by decide) (by decide)) ?_
      refine g_bipush (v := 9) (q := 127) C dX4_party_125 rfl (by decide) ?_
      refine g_aload_0 (q := 128) C dX4_party_127 rfl ?_
      refine g_geti (q := 131) C f_X4_63 dX4_party_128 rfl rfl (IM.d I _ (by decide) (by decide)) ?_
      refine g_imul (q := 132) C dX4_party_131 rfl ?_
      refine g_iload_7 (q := 134) C dX4_party_132 rfl ?_
      refine g_iadd (q := 135) C dX4_party_134 rfl ?_
      refine g_aload_6 (q := 137) C dX4_party_135 rfl ?_
      refine g_iload_7 (q := 139) C dX4_party_137 rfl ?_
      refine g_ia (q := 140) C dX4_party_139 rfl rfl (by rw [va_up_self]) rfl (by omega) (by decide) ?_
      refine g_iast (q := 141) C dX4_party_140 rfl rfl (IM.d I _ (by decide) (by decide)) (by rw [I.nP]; exact ix9 nP i) (by omega) (by decide) ?_
      refine g_iinc_7 (v := nI (i + 1)) (q := 144) C dX4_party_141 rfl (by rw [hN]; decide) (nI_1 i) ?_
      refine g_goto (tgt := 114) C dX4_party_144 (by decide) ?_
      exact ih (i + 1) _ (by omega) (by rw [h0, u2_up, show up1 (up1 a1 119 (v9 x1 x2 x3 x4 (if z = 0 then 0 else 1))) 102 (rwN (a1 102) (9 * nP) (v9 x1 x2 x3 x4 (if z = 0 then 0 else 1)) i) 119 i = (v9 x1 x2 x3 x4 (if z = 0 then 0 else 1)) i from rfl, rwN_s])
  refine g_aload_0 (q := 1) C dX4_party_0 rfl ?_
  refine g_iconst (v := 0) (q := 2) C dX4_party_1 rfl (by decide) ?_
  refine g_puti (q := 5) C p_X4_52 dX4_party_2 rfl rfl (IM.d I _ (by decide) (by decide)) rfl rfl ?_
  rw [← ha]
  have I : IM dm a1 nF nP := by rw [ha]; exact I.th
  refine g_aload_0 (q := 6) C dX4_party_5 rfl ?_
  refine g_iload_1 (q := 7) C dX4_party_6 rfl ?_
  refine g_cv1i (q := 10) C cv_X4_66 dX4_party_7 rfl rfl (IM.d I _ (by decide) (by decide)) (m_X4_isFlight I _) (by decide) (Nat.le_of_ble_eq_true rfl) ⟨Nat.zero_le _, Nat.zero_le _⟩ ?_
  refine g_ifeqb (tgt := 54) (q := 13) C dX4_party_10 rfl (by decide) (fun c_10 => ?_) (fun c_10 => ?_)
  · refine g_iconst (v := (-1)) (q := 55) C dX4_party_54 rfl (by decide) ?_
    refine g_wide (cl' := 1) (sl' := 9) (by decide) (by decide) ?_
    exact g_iret C RT9 dX4_party_55 ⟨rfl, rfl, rfl, rfl, Or.inr ⟨by first | (simp [pyK, c_10, c_20, c_30, c_42, n_eq I.nP c_51 (by omega) (by decide)]; done) | (simp [pyK, c_10, c_20, c_30, c_42]; done) | (simp [pyK, c_10, c_20, c_30]; done) | (simp [pyK, c_10, c_20]; done) | (simp [pyK, c_10]; done), rfl, rfl⟩⟩
  · refine g_iload_2 (q := 14) C dX4_party_13 rfl ?_
    refine g_iconst (v := 1) (q := 15) C dX4_party_14 rfl (by decide) ?_
    refine g_bipush (v := 6) (q := 17) C dX4_party_15 rfl (by decide) ?_
    refine g_cs3i (q := 20) C cs_X4_59 dX4_party_17 rfl (m_X4_in _ _ _) (by decide) (Nat.le_of_ble_eq_true rfl) ⟨Nat.zero_le _, Nat.zero_le _⟩ ?_
    refine g_ifeqb (tgt := 54) (q := 23) C dX4_party_20 rfl (by decide) (fun c_20 => ?_) (fun c_20 => ?_)
    · refine g_iconst (v := (-1)) (q := 55) C dX4_party_54 rfl (by decide) ?_
      refine g_wide (cl' := 1) (sl' := 9) (by decide) (by decide) ?_
      exact g_iret C RT9 dX4_party_55 ⟨rfl, rfl, rfl, rfl, Or.inr ⟨by first | (simp [pyK, c_10, c_20, c_30, c_42, n_eq I.nP c_51 (by omega) (by decide)]; done) | (simp [pyK, c_10, c_20, c_30, c_42]; done) | (simp [pyK, c_10, c_20, c_30]; done) | (simp [pyK, c_10, c_20]; done) | (simp [pyK, c_10]; done), rfl, rfl⟩⟩
    · refine g_iload_3 (q := 24) C dX4_party_23 rfl ?_
      refine g_iconst (v := 0) (q := 25) C dX4_party_24 rfl (by decide) ?_
      refine g_bipush (v := 9) (q := 27) C dX4_party_25 rfl (by decide) ?_
      refine g_cs3i (q := 30) C cs_X4_59 dX4_party_27 rfl (m_X4_in _ _ _) (by decide) (Nat.le_of_ble_eq_true rfl) ⟨Nat.zero_le _, Nat.zero_le _⟩ ?_
      refine g_ifeqb (tgt := 54) (q := 33) C dX4_party_30 rfl (by decide) (fun c_30 => ?_) (fun c_30 => ?_)
      · refine g_iconst (v := (-1)) (q := 55) C dX4_party_54 rfl (by decide) ?_
        refine g_wide (cl' := 1) (sl' := 9) (by decide) (by decide) ?_
        exact g_iret C RT9 dX4_party_55 ⟨rfl, rfl, rfl, rfl, Or.inr ⟨by first | (simp [pyK, c_10, c_20, c_30, c_42, n_eq I.nP c_51 (by omega) (by decide)]; done) | (simp [pyK, c_10, c_20, c_30, c_42]; done) | (simp [pyK, c_10, c_20, c_30]; done) | (simp [pyK, c_10, c_20]; done) | (simp [pyK, c_10]; done), rfl, rfl⟩⟩
      · refine g_iload_4 (q := 35) C dX4_party_33 rfl ?_
        refine g_iconst (v := (-1)) (q := 36) C dX4_party_35 rfl (by decide) ?_
        refine g_sipush (v := 999) (q := 39) C dX4_party_36 rfl (by decide) ?_
        refine g_cs3i (q := 42) C cs_X4_59 dX4_party_39 rfl (m_X4_in _ _ _) (by decide) (Nat.le_of_ble_eq_true rfl) ⟨Nat.zero_le _, Nat.zero_le _⟩ ?_
        refine g_ifeqb (tgt := 54) (q := 45) C dX4_party_42 rfl (by decide) (fun c_42 => ?_) (fun c_42 => ?_)
        · refine g_iconst (v := (-1)) (q := 55) C dX4_party_54 rfl (by decide) ?_
          refine g_wide (cl' := 1) (sl' := 9) (by decide) (by decide) ?_
          exact g_iret C RT9 dX4_party_55 ⟨rfl, rfl, rfl, rfl, Or.inr ⟨by first | (simp [pyK, c_10, c_20, c_30, c_42, n_eq I.nP c_51 (by omega) (by decide)]; done) | (simp [pyK, c_10, c_20, c_30, c_42]; done) | (simp [pyK, c_10, c_20, c_30]; done) | (simp [pyK, c_10, c_20]; done) | (simp [pyK, c_10]; done), rfl, rfl⟩⟩
        · refine g_aload_0 (q := 46) C dX4_party_45 rfl ?_
          refine g_geti (q := 49) C f_X4_63 dX4_party_46 rfl rfl (IM.d I _ (by decide) (by decide)) ?_
          refine g_bipush (v := 20) (q := 51) C dX4_party_49 rfl (by decide) ?_
          refine g_icmp_ne (tgt := 56) (q := 54) C dX4_party_51 rfl (by decide) (fun c_51 => ?_) (fun c_51 => ?_)
          · have h51 : nP < 20 := by
              rcases Nat.lt_or_ge nP 20 with h | h
              · exact h
              · exact absurd (by rw [I.nP, show nP = 20 by omega]; rfl) c_51
            refine g_bipush (v := 9) (q := 58) C dX4_party_56 rfl (by decide) ?_
            refine g_newi (n := 119) (N := 9) (q := 60) C dX4_party_58 rfl ac_I rfl hn (kds_far (by decide)) (hR.no (by decide)) rfl (by decide) ⟨by rw [hcells]; decide, by rw [hslots]; decide⟩ (fun ad1 had => ?_)
            rw [← had 100 (by decide)]
            refine g_dup (q := 61) C dX4_party_60 rfl rfl ?_
            refine g_iconst (v := 0) (q := 62) C dX4_party_61 rfl (by decide) ?_
            refine g_iload_1 (q := 63) C dX4_party_62 rfl ?_
            refine g_iast (q := 64) C dX4_party_63 rfl rfl (by rw [va_up_self]) (show _ = nI 0 from rfl) (by decide) (by decide) ?_
            refine g_dup (q := 65) C dX4_party_64 rfl rfl ?_
            refine g_iconst (v := 1) (q := 66) C dX4_party_65 rfl (by decide) ?_
            refine g_iload_2 (q := 67) C dX4_party_66 rfl ?_
            refine g_iast (q := 68) C dX4_party_67 rfl rfl (by rw [va_up_self]) (show _ = nI 1 from rfl) (by decide) (by decide) ?_
            refine g_dup (q := 69) C dX4_party_68 rfl rfl ?_
            refine g_iconst (v := 2) (q := 70) C dX4_party_69 rfl (by decide) ?_
            refine g_iload_3 (q := 71) C dX4_party_70 rfl ?_
            refine g_iast (q := 72) C dX4_party_71 rfl rfl (by rw [va_up_self]) (show _ = nI 2 from rfl) (by decide) (by decide) ?_
            refine g_dup (q := 73) C dX4_party_72 rfl rfl ?_
            refine g_iconst (v := 3) (q := 74) C dX4_party_73 rfl (by decide) ?_
            refine g_iload_4 (q := 76) C dX4_party_74 rfl ?_
            refine g_iast (q := 77) C dX4_party_76 rfl rfl (by rw [va_up_self]) (show _ = nI 3 from rfl) (by decide) (by decide) ?_
            refine g_dup (q := 78) C dX4_party_77 rfl rfl ?_
            refine g_iconst (v := 4) (q := 79) C dX4_party_78 rfl (by decide) ?_
            refine g_iload_5 (q := 81) C dX4_party_79 rfl ?_
            refine g_if_eq (tgt := 88) (q := 84) C dX4_party_81 rfl (by decide) (fun c_81 => ?_) (fun c_81 => ?_)
            · refine g_iconst (v := 0) (q := 89) C dX4_party_88 rfl (by decide) ?_
              refine g_iast (q := 90) C dX4_party_89 rfl rfl (by rw [va_up_self]) (show _ = nI 4 from rfl) (by decide) (by decide) ?_
              refine g_dup (q := 91) C dX4_party_90 rfl rfl ?_
              refine g_iconst (v := 5) (q := 92) C dX4_party_91 rfl (by decide) ?_
              refine g_iconst (v := 0) (q := 93) C dX4_party_92 rfl (by decide) ?_
              refine g_iast (q := 94) C dX4_party_93 rfl rfl (by rw [va_up_self]) (show _ = nI 5 from rfl) (by decide) (by decide) ?_
              refine g_dup (q := 95) C dX4_party_94 rfl rfl ?_
              refine g_bipush (v := 6) (q := 97) C dX4_party_95 rfl (by decide) ?_
              refine g_iconst (v := 0) (q := 98) C dX4_party_97 rfl (by decide) ?_
              refine g_iast (q := 99) C dX4_party_98 rfl rfl (by rw [va_up_self]) (show _ = nI 6 from rfl) (by decide) (by decide) ?_
              refine g_dup (q := 100) C dX4_party_99 rfl rfl ?_
              refine g_bipush (v := 7) (q := 102) C dX4_party_100 rfl (by decide) ?_
              refine g_iconst (v := (-1)) (q := 103) C dX4_party_102 rfl (by decide) ?_
              refine g_iast (q := 104) C dX4_party_103 rfl rfl (by rw [va_up_self]) (show _ = nI 7 from rfl) (by decide) (by decide) ?_
              refine g_dup (q := 105) C dX4_party_104 rfl rfl ?_
              refine g_bipush (v := 8) (q := 107) C dX4_party_105 rfl (by decide) ?_
              refine g_iconst (v := (-1)) (q := 108) C dX4_party_107 rfl (by decide) ?_
              refine g_iast (q := 109) C dX4_party_108 rfl rfl (by rw [va_up_self]) (show _ = nI 8 from rfl) (by decide) (by decide) ?_
              refine g_astore_6 (q := 111) C dX4_party_109 rfl (by rw [hN]; decide) rfl ?_
              refine g_iconst (v := 0) (q := 112) C dX4_party_111 rfl (by decide) ?_
              refine g_istore_7 (q := 114) C dX4_party_112 rfl (by rw [hN]; decide) rfl ?_
              exact lq I (by simp [pyK, c_10, c_20, c_30, c_42, h51]) h51 ad1 had 9 0 _ (by omega) (by rw [upz_up, u2_up, u2_up, u2_up, u2_up, u2_up, u2_up, u2_up, u2_up, u2_up]; (first | rw [if_pos c_81] | rw [if_neg c_81]); rw [rwN_0, up1_id' (by decide)]; rfl)
            · refine g_iconst (v := 1) (q := 85) C dX4_party_84 rfl (by decide) ?_
              refine g_goto (tgt := 89) C dX4_party_85 (by decide) ?_
              refine g_iast (q := 90) C dX4_party_89 rfl rfl (by rw [va_up_self]) (show _ = nI 4 from rfl) (by decide) (by decide) ?_
              refine g_dup (q := 91) C dX4_party_90 rfl rfl ?_
              refine g_iconst (v := 5) (q := 92) C dX4_party_91 rfl (by decide) ?_
              refine g_iconst (v := 0) (q := 93) C dX4_party_92 rfl (by decide) ?_
              refine g_iast (q := 94) C dX4_party_93 rfl rfl (by rw [va_up_self]) (show _ = nI 5 from rfl) (by decide) (by decide) ?_
              refine g_dup (q := 95) C dX4_party_94 rfl rfl ?_
              refine g_bipush (v := 6) (q := 97) C dX4_party_95 rfl (by decide) ?_
              refine g_iconst (v := 0) (q := 98) C dX4_party_97 rfl (by decide) ?_
              refine g_iast (q := 99) C dX4_party_98 rfl rfl (by rw [va_up_self]) (show _ = nI 6 from rfl) (by decide) (by decide) ?_
              refine g_dup (q := 100) C dX4_party_99 rfl rfl ?_
              refine g_bipush (v := 7) (q := 102) C dX4_party_100 rfl (by decide) ?_
              refine g_iconst (v := (-1)) (q := 103) C dX4_party_102 rfl (by decide) ?_
              refine g_iast (q := 104) C dX4_party_103 rfl rfl (by rw [va_up_self]) (show _ = nI 7 from rfl) (by decide) (by decide) ?_
              refine g_dup (q := 105) C dX4_party_104 rfl rfl ?_
              refine g_bipush (v := 8) (q := 107) C dX4_party_105 rfl (by decide) ?_
              refine g_iconst (v := (-1)) (q := 108) C dX4_party_107 rfl (by decide) ?_
              refine g_iast (q := 109) C dX4_party_108 rfl rfl (by rw [va_up_self]) (show _ = nI 8 from rfl) (by decide) (by decide) ?_
              refine g_astore_6 (q := 111) C dX4_party_109 rfl (by rw [hN]; decide) rfl ?_
              refine g_iconst (v := 0) (q := 112) C dX4_party_111 rfl (by decide) ?_
              refine g_istore_7 (q := 114) C dX4_party_112 rfl (by rw [hN]; decide) rfl ?_
              exact lq I (by simp [pyK, c_10, c_20, c_30, c_42, h51]) h51 ad1 had 9 0 _ (by omega) (by rw [upz_up, u2_up, u2_up, u2_up, u2_up, u2_up, u2_up, u2_up, u2_up, u2_up]; (first | rw [if_pos c_81] | rw [if_neg c_81]); rw [rwN_0, up1_id' (by decide)]; rfl)
          · refine g_iconst (v := (-1)) (q := 55) C dX4_party_54 rfl (by decide) ?_
            refine g_wide (cl' := 1) (sl' := 9) (by decide) (by decide) ?_
            exact g_iret C RT9 dX4_party_55 ⟨rfl, rfl, rfl, rfl, Or.inr ⟨by first | (simp [pyK, c_10, c_20, c_30, c_42, n_eq I.nP c_51 (by omega) (by decide)]; done) | (simp [pyK, c_10, c_20, c_30, c_42]; done) | (simp [pyK, c_10, c_20, c_30]; done) | (simp [pyK, c_10, c_20]; done) | (simp [pyK, c_10]; done), rfl, rfl⟩⟩

end M13
end
section
/-! THE CLASS'S STATE: the same flights, parties and numbers -/
def IX (dm : Nat → Bool) (nF nP : Nat) : Prop := nF ≤ 8 ∧ nP ≤ 20 ∧ (∀ n, n < 17 → dm n = true) ∧ (∀ i, i < nF → dm (20 + i) = true) ∧ ∀ j, j < nP → dm (30 + j) = true
section X14
variable {dm : Nat → Bool} {a : Nat → Nat → Int32} {r : Nat → Nat → Option Nat} {nF nP : Nat} {fl pa nu : Nat → Int32}
theorem IX.d0 (h : IX dm nF nP) (n : Nat) (hn : n < 17) : dm n = true := h.2.2.1 n hn
theorem IX.df (h : IX dm nF nP) {i : Nat} (hi : i < nF) : dm (20 + i) = true := h.2.2.2.1 i hi
theorem IX.dp (h : IX dm nF nP) {j : Nat} (hj : j < nP) : dm (30 + j) = true := h.2.2.2.2 j hj
theorem IX.lf (h : IX dm nF nP) {i : Nat} (hi : i < nF) : ly (20 + i) = .inl 0 := ly_F (Nat.lt_of_lt_of_le hi h.1)
theorem IX.lp (h : IX dm nF nP) {j : Nat} (hj : j < nP) : ly (30 + j) = .inl 2 := ly_P (Nat.lt_of_lt_of_le hj h.2.1)
def wr (o : Option Nat) (nF : Nat) (v : Int32) : Prop := (o = none ∧ v = -1) ∨ ∃ i, i < nF ∧ o = some (20 + i) ∧ v = nI i
def XR (nF nP : Nat) (fl pa nu : Nat → Int32) (dm : Nat → Bool) (a : Nat → Nat → Int32) (r : Nat → Nat → Option Nat) : Prop :=
  IX dm nF nP ∧ a 0 5 = nI nF ∧ a 0 6 = nI nP ∧ a 0 7 = nu 0 ∧ (∀ k, k < 3 → a 3 k = nu (k + 1)) ∧ (∀ i, i < nF → r 1 i = some (20 + i) ∧ a (20 + i) 0 = nI i ∧ ∀ k, k < 7 → a (20 + i) (k + 1) = fl (7 * i + k)) ∧ ∀ j, j < nP → r 2 j = some (30 + j) ∧ (∃ o, o < nF ∧ r (30 + j) 0 = some (20 + o) ∧ pa (9 * j) = nI o) ∧ (∀ k, 1 ≤ k → k ≤ 6 → a (30 + j) k = pa (9 * j + k)) ∧ wr (r (30 + j) 7) nF (pa (9 * j + 7)) ∧ wr (r (30 + j) 8) nF (pa (9 * j + 8))
theorem XR.ch (h : XR nF nP fl pa nu dm a r) : a 0 7 = nu 0 := h.2.2.2.1
theorem XR.fe (h : XR nF nP fl pa nu dm a r) {k : Nat} (hk : k < 3) : a 3 k = nu (k + 1) := h.2.2.2.2.1 k hk
theorem XR.rf (h : XR nF nP fl pa nu dm a r) {i : Nat} (hi : i < nF) : r 1 i = some (20 + i) := (h.2.2.2.2.2.1 i hi).1
theorem XR.rp (h : XR nF nP fl pa nu dm a r) {j : Nat} (hj : j < nP) : r 2 j = some (30 + j) := (h.2.2.2.2.2.2 j hj).1
theorem XR.no (h : XR nF nP fl pa nu dm a r) {i : Nat} (hi : i < nF) : a (20 + i) 0 = nI i := (h.2.2.2.2.2.1 i hi).2.1
theorem XR.fk (h : XR nF nP fl pa nu dm a r) {i : Nat} (hi : i < nF) {k : Nat} (hk : k < 7) : a (20 + i) (k + 1) = fl (7 * i + k) := (h.2.2.2.2.2.1 i hi).2.2 k hk
theorem XR.f0 (h : XR nF nP fl pa nu dm a r) {i : Nat} (hi : i < nF) : a (20 + i) 1 = fl (7 * i) := h.fk hi (k := 0) (by decide)
theorem XR.pt (h : XR nF nP fl pa nu dm a r) {j : Nat} (hj : j < nP) : ∃ o, o < nF ∧ r (30 + j) 0 = some (20 + o) ∧ pa (9 * j) = nI o ∧ pa (9 * j + 1) = a (30 + j) 1 ∧ pa (9 * j + 2) = a (30 + j) 2 ∧ pa (9 * j + 3) = a (30 + j) 3 ∧ pa (9 * j + 4) = a (30 + j) 4 ∧ pa (9 * j + 5) = a (30 + j) 5 ∧ pa (9 * j + 6) = a (30 + j) 6 ∧ wr (r (30 + j) 7) nF (pa (9 * j + 7)) ∧ wr (r (30 + j) 8) nF (pa (9 * j + 8)) := by
  obtain ⟨-, ⟨o, ho, ro, eo⟩, ek, w7, w8⟩ := h.2.2.2.2.2.2 j hj
  exact ⟨o, ho, ro, eo, (ek 1 (by decide) (by decide)).symm, (ek 2 (by decide) (by decide)).symm, (ek 3 (by decide) (by decide)).symm, (ek 4 (by decide) (by decide)).symm, (ek 5 (by decide) (by decide)).symm, (ek 6 (by decide) (by decide)).symm, w7, w8⟩
/-- flies on a flight; is stranded -/
def fyS (pa : Nat → Int32) (f : Int32) (p : Nat) : Bool := decide (pa (9 * p + 5) = 0) && decide (pa (9 * p) = f)
def sdS (pa : Nat → Int32) (p : Nat) : Bool := decide (¬ pa (9 * p + 5) = 0) && decide (pa (9 * p + 7) = -1)
theorem nI_in8 {o i nF : Nat} (ho : o < nF) (hi : i < nF) (hn : nF ≤ 8) : nI o = nI i ↔ o = i := nI_eq (by omega) (by omega)
theorem mg_fy {f : Int32} {p : Nat} : mgS pa f p = (fyS pa f p && decide (pa (9 * p + 3) ≠ -1) && decide (pa (9 * p + 4) = 0)) := by
  unfold mgS fyS
  rw [Bool.and_comm (decide (pa (9 * p) = f))]
end X14
theorem XR.nF {dm : Nat → Bool} {a : Nat → Nat → Int32} {r : Nat → Nat → Option Nat} {nF nP : Nat} {fl pa nu : Nat → Int32} (h : XR nF nP fl pa nu dm a r) : a 0 5 = nI nF := h.2.1
theorem XR.nP {dm : Nat → Bool} {a : Nat → Nat → Int32} {r : Nat → Nat → Option Nat} {nF nP : Nat} {fl pa nu : Nat → Int32} (h : XR nF nP fl pa nu dm a r) : a 0 6 = nI nP := h.2.2.1
end
section
section X15
variable {g : GM} {bs : Nat} {l : Launch} {ad : Nat → Nat} {dm : Nat → Bool} {a : Nat → Nat → Int32} {b : Nat → Nat → Int64} {r : Nat → Nat → Option Nat} {nF nP : Nat} {fl pa nu : Nat → Int32}
set_option maxHeartbeats 4000000 in
set_option maxRecDepth 100000 in
theorem m_X2_fliesOn (X : XR nF nP fl pa nu dm a r) {j i : Nat} (hj : j < nP) (hi : i < nF) : MT g bs l yX2_fliesOn cX2_fliesOn 2 (some .boolean) 0 0 0 [.ref (ad (30 + j)), .ref (ad (20 + i))] ad dm a b r (PX (some (.int (bI (fyS pa (nI i) j)))) ad dm a b r) := by
  refine mt_of (by decide) [some (.ref (ad (30 + j))), some (.ref (ad (20 + i)))] rfl (Nat.le_of_ble_eq_true rfl) ?_
  intro E hg hbs hl hN C RT9 hcells hslots hname
  have I := X.1
  have hnF := I.1
  have hnP := I.2.1
  obtain ⟨o, ho, ro, eo, e1, e2, e3, e4, e5, e6, w7, w8⟩ := X.pt hj
  refine g_aload_0 (q := 1) C dX2_fliesOn_0 rfl ?_
  refine g_geti (q := 4) C f_X2_9 dX2_fliesOn_1 rfl (IX.lp I (by assumption)) (IX.dp I (by assumption)) ?_
  refine g_if_ne (tgt := 19) (q := 7) C dX2_fliesOn_4 rfl (by decide) (fun c_4 => ?_) (fun c_4 => ?_)
  · refine g_iconst (v := 0) (q := 20) C dX2_fliesOn_19 rfl (by decide) ?_
    exact g_zret C RT9 dX2_fliesOn_20 rfl (pxi (by rw [fyS, eo, e5]; first | (simp [bI, c_4, nI_in8 ho hi hnF, show ¬ o = i by omega]; done) | (simp [bI, c_4, nI_in8 ho hi hnF, show o = i by omega]; done) | (simp [bI, c_4]; done)))
  · refine g_aload_0 (q := 8) C dX2_fliesOn_7 rfl ?_
    refine g_getr (q := 11) C f_X2_25 dX2_fliesOn_8 rfl (IX.lp I (by assumption)) (IX.dp I (by assumption)) ro ?_
    refine g_aload_1 (q := 12) C dX2_fliesOn_11 rfl ?_
    refine g_acmp_ne (tgt := 19) (q := 15) C dX2_fliesOn_12 rfl (by decide) (IX.df I (by assumption)) (IX.df I (by assumption)) (fun c_12 => ?_) (fun c_12 => ?_)
    · refine g_iconst (v := 0) (q := 20) C dX2_fliesOn_19 rfl (by decide) ?_
      exact g_zret C RT9 dX2_fliesOn_20 rfl (pxi (by rw [fyS, eo, e5]; first | (simp [bI, c_4, nI_in8 ho hi hnF, show ¬ o = i by omega]; done) | (simp [bI, c_4, nI_in8 ho hi hnF, show o = i by omega]; done) | (simp [bI, c_4]; done)))
    · refine g_iconst (v := 1) (q := 16) C dX2_fliesOn_15 rfl (by decide) ?_
      refine g_goto (tgt := 20) C dX2_fliesOn_16 (by decide) ?_
      exact g_zret C RT9 dX2_fliesOn_20 rfl (pxi (by rw [fyS, eo, e5]; first | (simp [bI, c_4, nI_in8 ho hi hnF, show ¬ o = i by omega]; done) | (simp [bI, c_4, nI_in8 ho hi hnF, show o = i by omega]; done) | (simp [bI, c_4]; done)))

set_option maxHeartbeats 4000000 in
set_option maxRecDepth 100000 in
theorem m_X2_wouldGive (X : XR nF nP fl pa nu dm a r) {j i : Nat} (hj : j < nP) (hi : i < nF) : MT g bs l yX2_wouldGive cX2_wouldGive 2 (some .boolean) 1 0 0 [.ref (ad (30 + j)), .ref (ad (20 + i))] ad dm a b r (PX (some (.int (bI (mgS pa (nI i) j)))) ad dm a b r) := by
  refine mt_of (by decide) [some (.ref (ad (30 + j))), some (.ref (ad (20 + i)))] rfl (Nat.le_of_ble_eq_true rfl) ?_
  intro E hg hbs hl hN C RT9 hcells hslots hname
  have I := X.1
  have hnF := I.1
  have hnP := I.2.1
  obtain ⟨o, ho, ro, eo, e1, e2, e3, e4, e5, e6, w7, w8⟩ := X.pt hj
  refine g_aload_0 (q := 1) C dX2_wouldGive_0 rfl ?_
  refine g_aload_1 (q := 2) C dX2_wouldGive_1 rfl ?_
  refine g_cv1i (q := 5) C cv_X2_41 dX2_wouldGive_2 rfl (IX.lp I (by assumption)) (IX.dp I (by assumption)) (m_X2_fliesOn X (by assumption) (by assumption)) (by decide) (Nat.le_of_ble_eq_true rfl) ⟨Nat.zero_le _, Nat.zero_le _⟩ ?_
  refine g_ifeqb (tgt := 27) (q := 8) C dX2_wouldGive_5 rfl (by decide) (fun c_5 => ?_) (fun c_5 => ?_)
  · refine g_iconst (v := 0) (q := 28) C dX2_wouldGive_27 rfl (by decide) ?_
    exact g_zret C RT9 dX2_wouldGive_28 rfl (pxi (by rw [mg_fy, e3, e4]; first | (simp [bI, c_5, c_13, c_20]) | (simp [bI, c_5, c_13]) | (simp [bI, c_5])))
  · refine g_aload_0 (q := 9) C dX2_wouldGive_8 rfl ?_
    refine g_geti (q := 12) C f_X2_34 dX2_wouldGive_9 rfl (IX.lp I (by assumption)) (IX.dp I (by assumption)) ?_
    refine g_iconst (v := (-1)) (q := 13) C dX2_wouldGive_12 rfl (by decide) ?_
    refine g_icmp_eq (tgt := 27) (q := 16) C dX2_wouldGive_13 rfl (by decide) (fun c_13 => ?_) (fun c_13 => ?_)
    · refine g_iconst (v := 0) (q := 28) C dX2_wouldGive_27 rfl (by decide) ?_
      exact g_zret C RT9 dX2_wouldGive_28 rfl (pxi (by rw [mg_fy, e3, e4]; first | (simp [bI, c_5, c_13, c_20]) | (simp [bI, c_5, c_13]) | (simp [bI, c_5])))
    · refine g_aload_0 (q := 17) C dX2_wouldGive_16 rfl ?_
      refine g_geti (q := 20) C f_X2_37 dX2_wouldGive_17 rfl (IX.lp I (by assumption)) (IX.dp I (by assumption)) ?_
      refine g_if_ne (tgt := 27) (q := 23) C dX2_wouldGive_20 rfl (by decide) (fun c_20 => ?_) (fun c_20 => ?_)
      · refine g_iconst (v := 0) (q := 28) C dX2_wouldGive_27 rfl (by decide) ?_
        exact g_zret C RT9 dX2_wouldGive_28 rfl (pxi (by rw [mg_fy, e3, e4]; first | (simp [bI, c_5, c_13, c_20]) | (simp [bI, c_5, c_13]) | (simp [bI, c_5])))
      · refine g_iconst (v := 1) (q := 24) C dX2_wouldGive_23 rfl (by decide) ?_
        refine g_goto (tgt := 28) C dX2_wouldGive_24 (by decide) ?_
        exact g_zret C RT9 dX2_wouldGive_28 rfl (pxi (by rw [mg_fy, e3, e4]; first | (simp [bI, c_5, c_13, c_20]) | (simp [bI, c_5, c_13]) | (simp [bI, c_5])))

set_option maxHeartbeats 4000000 in
set_option maxRecDepth 100000 in
theorem m_X2_isStranded (X : XR nF nP fl pa nu dm a r) {j : Nat} (hj : j < nP) : MT g bs l yX2_isStranded cX2_isStranded 1 (some .boolean) 0 0 0 [.ref (ad (30 + j))] ad dm a b r (PX (some (.int (bI (sdS pa j)))) ad dm a b r) := by
  refine mt_of (by decide) [some (.ref (ad (30 + j)))] rfl (Nat.le_of_ble_eq_true rfl) ?_
  intro E hg hbs hl hN C RT9 hcells hslots hname
  have I := X.1
  have hnF := I.1
  have hnP := I.2.1
  obtain ⟨o, ho, ro, eo, e1, e2, e3, e4, e5, e6, w7, w8⟩ := X.pt hj
  refine g_aload_0 (q := 1) C dX2_isStranded_0 rfl ?_
  refine g_geti (q := 4) C f_X2_9 dX2_isStranded_1 rfl (IX.lp I (by assumption)) (IX.dp I (by assumption)) ?_
  refine g_if_eq (tgt := 18) (q := 7) C dX2_isStranded_4 rfl (by decide) (fun c_4 => ?_) (fun c_4 => ?_)
  · refine g_iconst (v := 0) (q := 19) C dX2_isStranded_18 rfl (by decide) ?_
    exact g_zret C RT9 dX2_isStranded_19 rfl (pxi (by rw [sdS, e5]; first | (simp [bI, c_4, v7, nI_m1 (show k7 < 2 ^ 31 by omega)]; done) | (simp [bI, c_4, v7]; done) | (simp [bI, c_4]; done)))
  · refine g_aload_0 (q := 8) C dX2_isStranded_7 rfl ?_
    rcases w7 with ⟨r7, v7⟩ | ⟨k7, hk7, r7, v7⟩
    · refine g_getrN (q := 11) C f_X2_18 dX2_isStranded_8 rfl (IX.lp I (by assumption)) (IX.dp I (by assumption)) r7 ?_
      refine g_ifnonnullN (q := 14) C dX2_isStranded_11 rfl ?_
      refine g_iconst (v := 1) (q := 15) C dX2_isStranded_14 rfl (by decide) ?_
      refine g_goto (tgt := 19) C dX2_isStranded_15 (by decide) ?_
      exact g_zret C RT9 dX2_isStranded_19 rfl (pxi (by rw [sdS, e5]; first | (simp [bI, c_4, v7, nI_m1 (show k7 < 2 ^ 31 by omega)]; done) | (simp [bI, c_4, v7]; done) | (simp [bI, c_4]; done)))
    · refine g_getr (q := 11) C f_X2_18 dX2_isStranded_8 rfl (IX.lp I (by assumption)) (IX.dp I (by assumption)) r7 ?_
      refine g_ifnonnull (tgt := 18) C dX2_isStranded_11 (by decide) ?_
      refine g_iconst (v := 0) (q := 19) C dX2_isStranded_18 rfl (by decide) ?_
      exact g_zret C RT9 dX2_isStranded_19 rfl (pxi (by rw [sdS, e5]; first | (simp [bI, c_4, v7, nI_m1 (show k7 < 2 ^ 31 by omega)]; done) | (simp [bI, c_4, v7]; done) | (simp [bI, c_4]; done)))

set_option maxHeartbeats 4000000 in
set_option maxRecDepth 100000 in
theorem m_X2_giveUp (I : IX dm nF nP) {j : Nat} (hj : j < nP) (x y : Int32) : MT g bs l yX2_giveUp cX2_giveUp 3 none 0 0 0 [.ref (ad (30 + j)), .int x, .int y] ad dm a b r (PX none ad dm (u2 (u2 a (30 + j) 5 x) (30 + j) 6 y) b r) := by
  refine mt_of (by decide) [some (.ref (ad (30 + j))), some (.int x), some (.int y)] rfl (Nat.le_of_ble_eq_true rfl) ?_
  intro E hg hbs hl hN C RT9 hcells hslots hname
  refine g_aload_0 (q := 1) C dX2_giveUp_0 rfl ?_
  refine g_iload_1 (q := 2) C dX2_giveUp_1 rfl ?_
  refine g_puti (q := 5) C p_X2_9 dX2_giveUp_2 rfl (IX.lp I (by assumption)) (IX.dp I (by assumption)) rfl rfl ?_
  refine g_aload_0 (q := 6) C dX2_giveUp_5 rfl ?_
  refine g_iload_2 (q := 7) C dX2_giveUp_6 rfl ?_
  refine g_puti (q := 10) C p_X2_15 dX2_giveUp_7 rfl (IX.lp I (by assumption)) (IX.dp I (by assumption)) rfl rfl ?_
  exact g_vret C RT9 dX2_giveUp_10 (px rfl)

set_option maxHeartbeats 4000000 in
set_option maxRecDepth 100000 in
theorem m_X2_takeWay_rr (I : IX dm nF nP) {j : Nat} (hj : j < nP) (x y : Nat) : MT g bs l yX2_takeWay cX2_takeWay 3 none 0 0 0 [.ref (ad (30 + j)), .ref (ad x), .ref (ad y)] ad dm a b r (PX none ad dm a b (u2 (u2 r (30 + j) 7 (some x)) (30 + j) 8 (some y))) := by
  refine mt_of (by decide) [some (.ref (ad (30 + j))), some (.ref (ad x)), some (.ref (ad y))] rfl (Nat.le_of_ble_eq_true rfl) ?_
  intro E hg hbs hl hN C RT9 hcells hslots hname
  refine g_aload_0 (q := 1) C dX2_takeWay_0 rfl ?_
  refine g_aload_1 (q := 2) C dX2_takeWay_1 rfl ?_
  refine g_putr (q := 5) C p_X2_18 dX2_takeWay_2 rfl (IX.lp I (by assumption)) (IX.dp I (by assumption)) rfl rfl ?_
  refine g_aload_0 (q := 6) C dX2_takeWay_5 rfl ?_
  refine g_aload_2 (q := 7) C dX2_takeWay_6 rfl ?_
  refine g_putr (q := 10) C p_X2_22 dX2_takeWay_7 rfl (IX.lp I (by assumption)) (IX.dp I (by assumption)) rfl rfl ?_
  exact g_vret C RT9 dX2_takeWay_10 (px rfl)

set_option maxHeartbeats 4000000 in
set_option maxRecDepth 100000 in
theorem m_X2_takeWay_rn (I : IX dm nF nP) {j : Nat} (hj : j < nP) (x : Nat) : MT g bs l yX2_takeWay cX2_takeWay 3 none 0 0 0 [.ref (ad (30 + j)), .ref (ad x), .null] ad dm a b r (PX none ad dm a b (u2 (u2 r (30 + j) 7 (some x)) (30 + j) 8 (none))) := by
  refine mt_of (by decide) [some (.ref (ad (30 + j))), some (.ref (ad x)), some (.null)] rfl (Nat.le_of_ble_eq_true rfl) ?_
  intro E hg hbs hl hN C RT9 hcells hslots hname
  refine g_aload_0 (q := 1) C dX2_takeWay_0 rfl ?_
  refine g_aload_1 (q := 2) C dX2_takeWay_1 rfl ?_
  refine g_putr (q := 5) C p_X2_18 dX2_takeWay_2 rfl (IX.lp I (by assumption)) (IX.dp I (by assumption)) rfl rfl ?_
  refine g_aload_0 (q := 6) C dX2_takeWay_5 rfl ?_
  refine g_aload_2N (q := 7) C dX2_takeWay_6 rfl ?_
  refine g_putrN (q := 10) C p_X2_22 dX2_takeWay_7 rfl (IX.lp I (by assumption)) (IX.dp I (by assumption)) rfl rfl ?_
  exact g_vret C RT9 dX2_takeWay_10 (px rfl)

set_option maxHeartbeats 4000000 in
set_option maxRecDepth 100000 in
theorem m_X2_takeWay_nn (I : IX dm nF nP) {j : Nat} (hj : j < nP)  : MT g bs l yX2_takeWay cX2_takeWay 3 none 0 0 0 [.ref (ad (30 + j)), .null, .null] ad dm a b r (PX none ad dm a b (u2 (u2 r (30 + j) 7 (none)) (30 + j) 8 (none))) := by
  refine mt_of (by decide) [some (.ref (ad (30 + j))), some (.null), some (.null)] rfl (Nat.le_of_ble_eq_true rfl) ?_
  intro E hg hbs hl hN C RT9 hcells hslots hname
  refine g_aload_0 (q := 1) C dX2_takeWay_0 rfl ?_
  refine g_aload_1N (q := 2) C dX2_takeWay_1 rfl ?_
  refine g_putrN (q := 5) C p_X2_18 dX2_takeWay_2 rfl (IX.lp I (by assumption)) (IX.dp I (by assumption)) rfl rfl ?_
  refine g_aload_0 (q := 6) C dX2_takeWay_5 rfl ?_
  refine g_aload_2N (q := 7) C dX2_takeWay_6 rfl ?_
  refine g_putrN (q := 10) C p_X2_22 dX2_takeWay_7 rfl (IX.lp I (by assumption)) (IX.dp I (by assumption)) rfl rfl ?_
  exact g_vret C RT9 dX2_takeWay_10 (px rfl)

set_option maxHeartbeats 4000000 in
set_option maxRecDepth 100000 in
theorem m_X2_flyAgain (I : IX dm nF nP) {j : Nat} (hj : j < nP) : MT g bs l yX2_flyAgain cX2_flyAgain 1 none 1 0 0 [.ref (ad (30 + j))] ad dm a b r (PX none ad dm (u2 (u2 a (30 + j) 5 0) (30 + j) 6 0) b (u2 (u2 r (30 + j) 7 none) (30 + j) 8 none)) := by
  refine mt_of (by decide) [some (.ref (ad (30 + j)))] rfl (Nat.le_of_ble_eq_true rfl) ?_
  intro E hg hbs hl hN C RT9 hcells hslots hname
  refine g_aload_0 (q := 1) C dX2_flyAgain_0 rfl ?_
  refine g_iconst (v := 0) (q := 2) C dX2_flyAgain_1 rfl (by decide) ?_
  refine g_iconst (v := 0) (q := 3) C dX2_flyAgain_2 rfl (by decide) ?_
  refine g_cv2v (q := 6) C cv_X2_45 dX2_flyAgain_3 rfl (IX.lp I (by assumption)) (IX.dp I (by assumption)) (m_X2_giveUp I (by assumption) _ _) (by decide) (Nat.le_of_ble_eq_true rfl) ⟨Nat.zero_le _, Nat.zero_le _⟩ ?_
  refine g_aload_0 (q := 7) C dX2_flyAgain_6 rfl ?_
  refine g_null (q := 8) C dX2_flyAgain_7 rfl ?_
  refine g_null (q := 9) C dX2_flyAgain_8 rfl ?_
  refine g_cv2v (q := 12) C cv_X2_49 dX2_flyAgain_9 rfl (IX.lp I (by assumption)) (IX.dp I (by assumption)) (m_X2_takeWay_nn I (by assumption)) (by decide) (Nat.le_of_ble_eq_true rfl) ⟨Nat.zero_le _, Nat.zero_le _⟩ ?_
  exact g_vret C RT9 dX2_flyAgain_12 (px rfl)

set_option maxHeartbeats 4000000 in
set_option maxRecDepth 100000 in
theorem m_X2_lateBy_n (X : XR nF nP fl pa nu dm a r) {j i : Nat} (hj : j < nP) (hi : i < nF) : MT g bs l yX2_lateBy cX2_lateBy 4 (some .int) 1 0 0 [.ref (ad (30 + j)), .ref (ad (20 + i)), .null] ad dm a b r (PX (some (.int (ltS fl (cN (pa (9 * j))) i))) ad dm a b r) := by
  refine mt_of (by decide) [some (.ref (ad (30 + j))), some (.ref (ad (20 + i))), some (.null), none] rfl (Nat.le_of_ble_eq_true rfl) ?_
  intro E hg hbs hl hN C RT9 hcells hslots hname
  have I := X.1
  have hnF := I.1
  have hnP := I.2.1
  obtain ⟨o, ho, ro, eo, e1, e2, e3, e4, e5, e6, w7, w8⟩ := X.pt hj
  refine g_aload_2N (q := 1) C dX2_lateBy_0 rfl ?_
  refine g_ifnonnullN (q := 4) C dX2_lateBy_1 rfl ?_
  refine g_aload_1 (q := 5) C dX2_lateBy_4 rfl ?_
  refine g_geti (q := 8) C f_X2_53 dX2_lateBy_5 rfl (IX.lf I (by assumption)) (IX.df I (by assumption)) ?_
  refine g_goto (tgt := 15) C dX2_lateBy_8 (by decide) ?_
  refine g_istore_3 (q := 16) C dX2_lateBy_15 rfl (by rw [hN]; decide) rfl ?_
  refine g_iconst (v := 0) (q := 17) C dX2_lateBy_16 rfl (by decide) ?_
  refine g_iload_3 (q := 18) C dX2_lateBy_17 rfl ?_
  refine g_aload_0 (q := 19) C dX2_lateBy_18 rfl ?_
  refine g_getr (q := 22) C f_X2_25 dX2_lateBy_19 rfl (IX.lp I (by assumption)) (IX.dp I (by assumption)) ro ?_
  refine g_geti (q := 25) C f_X2_53 dX2_lateBy_22 rfl (IX.lf I (by assumption)) (IX.df I (by assumption)) ?_
  refine g_isub (q := 26) C dX2_lateBy_25 rfl ?_
  refine g_mmax (q := 29) C cm_X2_58 dX2_lateBy_26 rfl (by decide) (Nat.le_of_ble_eq_true rfl) ⟨Nat.zero_le _, Nat.zero_le _⟩ ?_
  exact g_iret C RT9 dX2_lateBy_29 (pxi (by rw [ltS, eo, cN_nI (by omega), ← X.fk (k := 3) ho (by decide), ← X.fk (k := 3) hi (by decide)]; rfl))

set_option maxHeartbeats 4000000 in
set_option maxRecDepth 100000 in
theorem m_X2_lateBy_r (X : XR nF nP fl pa nu dm a r) {j i k : Nat} (hj : j < nP) (hi : i < nF) (hk : k < nF) : MT g bs l yX2_lateBy cX2_lateBy 4 (some .int) 1 0 0 [.ref (ad (30 + j)), .ref (ad (20 + i)), .ref (ad (20 + k))] ad dm a b r (PX (some (.int (ltS fl (cN (pa (9 * j))) k))) ad dm a b r) := by
  refine mt_of (by decide) [some (.ref (ad (30 + j))), some (.ref (ad (20 + i))), some (.ref (ad (20 + k))), none] rfl (Nat.le_of_ble_eq_true rfl) ?_
  intro E hg hbs hl hN C RT9 hcells hslots hname
  have I := X.1
  have hnF := I.1
  have hnP := I.2.1
  obtain ⟨o, ho, ro, eo, e1, e2, e3, e4, e5, e6, w7, w8⟩ := X.pt hj
  refine g_aload_2 (q := 1) C dX2_lateBy_0 rfl ?_
  refine g_ifnonnull (tgt := 11) C dX2_lateBy_1 (by decide) ?_
  refine g_aload_2 (q := 12) C dX2_lateBy_11 rfl ?_
  refine g_geti (q := 15) C f_X2_53 dX2_lateBy_12 rfl (IX.lf I (by assumption)) (IX.df I (by assumption)) ?_
  refine g_istore_3 (q := 16) C dX2_lateBy_15 rfl (by rw [hN]; decide) rfl ?_
  refine g_iconst (v := 0) (q := 17) C dX2_lateBy_16 rfl (by decide) ?_
  refine g_iload_3 (q := 18) C dX2_lateBy_17 rfl ?_
  refine g_aload_0 (q := 19) C dX2_lateBy_18 rfl ?_
  refine g_getr (q := 22) C f_X2_25 dX2_lateBy_19 rfl (IX.lp I (by assumption)) (IX.dp I (by assumption)) ro ?_
  refine g_geti (q := 25) C f_X2_53 dX2_lateBy_22 rfl (IX.lf I (by assumption)) (IX.df I (by assumption)) ?_
  refine g_isub (q := 26) C dX2_lateBy_25 rfl ?_
  refine g_mmax (q := 29) C cm_X2_58 dX2_lateBy_26 rfl (by decide) (Nat.le_of_ble_eq_true rfl) ⟨Nat.zero_le _, Nat.zero_le _⟩ ?_
  exact g_iret C RT9 dX2_lateBy_29 (pxi (by rw [ltS, eo, cN_nI (by omega), ← X.fk (k := 3) ho (by decide), ← X.fk (k := 3) hk (by decide)]; rfl))

set_option maxHeartbeats 4000000 in
set_option maxRecDepth 100000 in
theorem m_X2_lateByWay (X : XR nF nP fl pa nu dm a r) {j : Nat} (hj : j < nP) : MT g bs l yX2_lateByWay cX2_lateByWay 1 (some .int) 2 0 0 [.ref (ad (30 + j))] ad dm a b r (PX (some (.int (loS fl pa j))) ad dm a b r) := by
  refine mt_of (by decide) [some (.ref (ad (30 + j)))] rfl (Nat.le_of_ble_eq_true rfl) ?_
  intro E hg hbs hl hN C RT9 hcells hslots hname
  have I := X.1
  have hnF := I.1
  have hnP := I.2.1
  obtain ⟨o, ho, ro, eo, e1, e2, e3, e4, e5, e6, w7, w8⟩ := X.pt hj
  refine g_aload_0 (q := 1) C dX2_lateByWay_0 rfl ?_
  rcases w7 with ⟨r7, v7⟩ | ⟨k7, hk7, r7, v7⟩
  · refine g_getrN (q := 4) C f_X2_18 dX2_lateByWay_1 rfl (IX.lp I (by assumption)) (IX.dp I (by assumption)) r7 ?_
    refine g_ifnonnullN (q := 7) C dX2_lateByWay_4 rfl ?_
    refine g_iconst (v := (-1)) (q := 8) C dX2_lateByWay_7 rfl (by decide) ?_
    refine g_goto (tgt := 23) C dX2_lateByWay_8 (by decide) ?_
    exact g_iret C RT9 dX2_lateByWay_23 (pxi (by rw [loS]; first | (rw [if_pos v7]) | (rw [if_neg (by rw [v7]; exact nI_m1 (by omega)), if_pos v8, v7, cN_nI (by omega)]) | (rw [if_neg (by rw [v7]; exact nI_m1 (by omega)), if_neg (by rw [v8]; exact nI_m1 (by omega)), v8, cN_nI (by omega)])))
  · refine g_getr (q := 4) C f_X2_18 dX2_lateByWay_1 rfl (IX.lp I (by assumption)) (IX.dp I (by assumption)) r7 ?_
    refine g_ifnonnull (tgt := 11) C dX2_lateByWay_4 (by decide) ?_
    refine g_aload_0 (q := 12) C dX2_lateByWay_11 rfl ?_
    refine g_aload_0 (q := 13) C dX2_lateByWay_12 rfl ?_
    refine g_getr (q := 16) C f_X2_18 dX2_lateByWay_13 rfl (IX.lp I (by assumption)) (IX.dp I (by assumption)) r7 ?_
    refine g_aload_0 (q := 17) C dX2_lateByWay_16 rfl ?_
    rcases w8 with ⟨r8, v8⟩ | ⟨k8, hk8, r8, v8⟩
    · refine g_getrN (q := 20) C f_X2_22 dX2_lateByWay_17 rfl (IX.lp I (by assumption)) (IX.dp I (by assumption)) r8 ?_
      refine g_cv2i (q := 23) C cv_X2_64 dX2_lateByWay_20 rfl (IX.lp I (by assumption)) (IX.dp I (by assumption)) (m_X2_lateBy_n X (by assumption) (by assumption)) (by decide) (Nat.le_of_ble_eq_true rfl) ⟨Nat.zero_le _, Nat.zero_le _⟩ ?_
      exact g_iret C RT9 dX2_lateByWay_23 (pxi (by rw [loS]; first | (rw [if_pos v7]) | (rw [if_neg (by rw [v7]; exact nI_m1 (by omega)), if_pos v8, v7, cN_nI (by omega)]) | (rw [if_neg (by rw [v7]; exact nI_m1 (by omega)), if_neg (by rw [v8]; exact nI_m1 (by omega)), v8, cN_nI (by omega)])))
    · refine g_getr (q := 20) C f_X2_22 dX2_lateByWay_17 rfl (IX.lp I (by assumption)) (IX.dp I (by assumption)) r8 ?_
      refine g_cv2i (q := 23) C cv_X2_64 dX2_lateByWay_20 rfl (IX.lp I (by assumption)) (IX.dp I (by assumption)) (m_X2_lateBy_r X (by assumption) (by assumption) (by assumption)) (by decide) (Nat.le_of_ble_eq_true rfl) ⟨Nat.zero_le _, Nat.zero_le _⟩ ?_
      exact g_iret C RT9 dX2_lateByWay_23 (pxi (by rw [loS]; first | (rw [if_pos v7]) | (rw [if_neg (by rw [v7]; exact nI_m1 (by omega)), if_pos v8, v7, cN_nI (by omega)]) | (rw [if_neg (by rw [v7]; exact nI_m1 (by omega)), if_neg (by rw [v8]; exact nI_m1 (by omega)), v8, cN_nI (by omega)])))

set_option maxHeartbeats 4000000 in
set_option maxRecDepth 100000 in
theorem m_X3_within (v x y : Int32) : MT g bs l yX3_within cX3_within 3 (some .boolean) 0 0 0 [.int v, .int x, .int y] ad dm a b r (PX (some (.int (bI (inR v x y)))) ad dm a b r) := by
  refine mt_of (by decide) [some (.int v), some (.int x), some (.int y)] rfl (Nat.le_of_ble_eq_true rfl) ?_
  intro E hg hbs hl hN C RT9 hcells hslots hname
  refine g_iload_0 (q := 1) C dX3_within_0 rfl ?_
  refine g_iload_1 (q := 2) C dX3_within_1 rfl ?_
  refine g_icmp_lt (tgt := 14) (q := 5) C dX3_within_2 rfl (by decide) (fun c_2 => ?_) (fun c_2 => ?_)
  · refine g_iconst (v := 0) (q := 15) C dX3_within_14 rfl (by decide) ?_
    exact g_zret C RT9 dX3_within_15 rfl (pxi (by first | (rw [in_f1 c_2]; rfl) | (rw [in_f2 c_7]; rfl) | (rw [in_t c_2 c_7]; rfl)))
  · refine g_iload_0 (q := 6) C dX3_within_5 rfl ?_
    refine g_iload_2 (q := 7) C dX3_within_6 rfl ?_
    refine g_icmp_gt (tgt := 14) (q := 10) C dX3_within_7 rfl (by decide) (fun c_7 => ?_) (fun c_7 => ?_)
    · refine g_iconst (v := 0) (q := 15) C dX3_within_14 rfl (by decide) ?_
      exact g_zret C RT9 dX3_within_15 rfl (pxi (by first | (rw [in_f1 c_2]; rfl) | (rw [in_f2 c_7]; rfl) | (rw [in_t c_2 c_7]; rfl)))
    · refine g_iconst (v := 1) (q := 11) C dX3_within_10 rfl (by decide) ?_
      refine g_goto (tgt := 15) C dX3_within_11 (by decide) ?_
      exact g_zret C RT9 dX3_within_15 rfl (pxi (by first | (rw [in_f1 c_2]; rfl) | (rw [in_f2 c_7]; rfl) | (rw [in_t c_2 c_7]; rfl)))

theorem fok_x {c x : Int32} {n : Nat} (hc : c = nI n) (h1 : ¬ x < 0) (h2 : ¬ c ≤ x) (hn : n < 2 ^ 30) : fok n x = true := by
  subst hc
  refine in_t h1 ?_
  rw [i_lt, nm1 hn]
  rw [i_le, nI_toInt (by omega)] at h2
  omega
set_option maxHeartbeats 4000000 in
set_option maxRecDepth 100000 in
theorem m_X3_flightAt_y (X : XR nF nP fl pa nu dm a r) {i : Nat} (hi : i < nF) : MT g bs l yX3_flightAt cX3_flightAt 2 (some (.object "TooMany$Flight")) 0 0 0 [.ref (ad 0), .int (nI i)] ad dm a b r (PX (some (.ref (ad (20 + i)))) ad dm a b r) := by
  refine mt_of (by decide) [some (.ref (ad 0)), some (.int (nI i))] rfl (Nat.le_of_ble_eq_true rfl) ?_
  intro E hg hbs hl hN C RT9 hcells hslots hname
  have I := X.1
  have hnF := I.1
  have hnP := I.2.1
  refine g_iload_1 (q := 1) C dX3_flightAt_0 rfl ?_
  refine g_if_lt (tgt := 21) (q := 4) C dX3_flightAt_1 rfl (by decide) (fun c_1 => absurd c_1 (nI_pos (by omega))) (fun c_1 => ?_)
  refine g_iload_1 (q := 5) C dX3_flightAt_4 rfl ?_
  refine g_aload_0 (q := 6) C dX3_flightAt_5 rfl ?_
  refine g_geti (q := 9) C f_X3_36 dX3_flightAt_6 rfl rfl (IX.d0 I _ (by decide)) ?_
  refine g_icmp_ge (tgt := 21) (q := 12) C dX3_flightAt_9 rfl (by decide) (fun c_9 => absurd c_9 (by rw [X.nF]; exact nI_ge hi (by omega))) (fun c_9 => ?_)
  refine g_aload_0 (q := 13) C dX3_flightAt_12 rfl ?_
  refine g_getc (q := 16) (m := 1) C f_X3_11 dX3_flightAt_13 rfl rfl (IX.d0 I _ (by decide)) ?_
  refine g_iload_1 (q := 17) C dX3_flightAt_16 rfl ?_
  refine g_aaF (q := 18) C dX3_flightAt_17 rfl rfl (IX.d0 I _ (by decide)) rfl (by omega) (by decide) (XR.rf X hi) ?_
  refine g_goto (tgt := 22) C dX3_flightAt_18 (by decide) ?_
  exact g_aret C RT9 dX3_flightAt_22 (Or.inr ⟨_, rfl⟩) (px rfl)

set_option maxHeartbeats 4000000 in
set_option maxRecDepth 100000 in
theorem m_X3_flightAt_n (X : XR nF nP fl pa nu dm a r) {x : Int32} (hi : fok nF x = false) : MT g bs l yX3_flightAt cX3_flightAt 2 (some (.object "TooMany$Flight")) 0 0 0 [.ref (ad 0), .int x] ad dm a b r (PX (some .null) ad dm a b r) := by
  refine mt_of (by decide) [some (.ref (ad 0)), some (.int x)] rfl (Nat.le_of_ble_eq_true rfl) ?_
  intro E hg hbs hl hN C RT9 hcells hslots hname
  have I := X.1
  have hnF := I.1
  have hnP := I.2.1
  refine g_iload_1 (q := 1) C dX3_flightAt_0 rfl ?_
  refine g_if_lt (tgt := 21) (q := 4) C dX3_flightAt_1 rfl (by decide) (fun c_1 => ?_) (fun c_1 => ?_)
  · refine g_null (q := 22) C dX3_flightAt_21 rfl ?_
    exact g_aret C RT9 dX3_flightAt_22 (Or.inl rfl) (px rfl)
  · refine g_iload_1 (q := 5) C dX3_flightAt_4 rfl ?_
    refine g_aload_0 (q := 6) C dX3_flightAt_5 rfl ?_
    refine g_geti (q := 9) C f_X3_36 dX3_flightAt_6 rfl rfl (IX.d0 I _ (by decide)) ?_
    refine g_icmp_ge (tgt := 21) (q := 12) C dX3_flightAt_9 rfl (by decide) (fun c_9 => ?_) (fun c_9 => absurd hi (by rw [fok_x X.nF c_1 c_9 (by omega)]; decide))
    refine g_null (q := 22) C dX3_flightAt_21 rfl ?_
    exact g_aret C RT9 dX3_flightAt_22 (Or.inl rfl) (px rfl)

set_option maxHeartbeats 4000000 in
set_option maxRecDepth 100000 in
theorem m_X3_partyAt_y (X : XR nF nP fl pa nu dm a r) {i : Nat} (hi : i < nP) : MT g bs l yX3_partyAt cX3_partyAt 2 (some (.object "TooMany$Party")) 0 0 0 [.ref (ad 0), .int (nI i)] ad dm a b r (PX (some (.ref (ad (30 + i)))) ad dm a b r) := by
  refine mt_of (by decide) [some (.ref (ad 0)), some (.int (nI i))] rfl (Nat.le_of_ble_eq_true rfl) ?_
  intro E hg hbs hl hN C RT9 hcells hslots hname
  have I := X.1
  have hnF := I.1
  have hnP := I.2.1
  refine g_iload_1 (q := 1) C dX3_partyAt_0 rfl ?_
  refine g_if_lt (tgt := 21) (q := 4) C dX3_partyAt_1 rfl (by decide) (fun c_1 => absurd c_1 (nI_pos (by omega))) (fun c_1 => ?_)
  refine g_iload_1 (q := 5) C dX3_partyAt_4 rfl ?_
  refine g_aload_0 (q := 6) C dX3_partyAt_5 rfl ?_
  refine g_geti (q := 9) C f_X3_40 dX3_partyAt_6 rfl rfl (IX.d0 I _ (by decide)) ?_
  refine g_icmp_ge (tgt := 21) (q := 12) C dX3_partyAt_9 rfl (by decide) (fun c_9 => absurd c_9 (by rw [X.nP]; exact nI_ge hi (by omega))) (fun c_9 => ?_)
  refine g_aload_0 (q := 13) C dX3_partyAt_12 rfl ?_
  refine g_getc (q := 16) (m := 2) C f_X3_17 dX3_partyAt_13 rfl rfl (IX.d0 I _ (by decide)) ?_
  refine g_iload_1 (q := 17) C dX3_partyAt_16 rfl ?_
  refine g_aaP (q := 18) C dX3_partyAt_17 rfl rfl (IX.d0 I _ (by decide)) rfl (by omega) (by decide) (XR.rp X hi) ?_
  refine g_goto (tgt := 22) C dX3_partyAt_18 (by decide) ?_
  exact g_aret C RT9 dX3_partyAt_22 (Or.inr ⟨_, rfl⟩) (px rfl)

set_option maxHeartbeats 4000000 in
set_option maxRecDepth 100000 in
theorem m_X3_partyAt_n (X : XR nF nP fl pa nu dm a r) {x : Int32} (hi : fok nP x = false) : MT g bs l yX3_partyAt cX3_partyAt 2 (some (.object "TooMany$Party")) 0 0 0 [.ref (ad 0), .int x] ad dm a b r (PX (some .null) ad dm a b r) := by
  refine mt_of (by decide) [some (.ref (ad 0)), some (.int x)] rfl (Nat.le_of_ble_eq_true rfl) ?_
  intro E hg hbs hl hN C RT9 hcells hslots hname
  have I := X.1
  have hnF := I.1
  have hnP := I.2.1
  refine g_iload_1 (q := 1) C dX3_partyAt_0 rfl ?_
  refine g_if_lt (tgt := 21) (q := 4) C dX3_partyAt_1 rfl (by decide) (fun c_1 => ?_) (fun c_1 => ?_)
  · refine g_null (q := 22) C dX3_partyAt_21 rfl ?_
    exact g_aret C RT9 dX3_partyAt_22 (Or.inl rfl) (px rfl)
  · refine g_iload_1 (q := 5) C dX3_partyAt_4 rfl ?_
    refine g_aload_0 (q := 6) C dX3_partyAt_5 rfl ?_
    refine g_geti (q := 9) C f_X3_40 dX3_partyAt_6 rfl rfl (IX.d0 I _ (by decide)) ?_
    refine g_icmp_ge (tgt := 21) (q := 12) C dX3_partyAt_9 rfl (by decide) (fun c_9 => ?_) (fun c_9 => absurd hi (by rw [fok_x X.nP c_1 c_9 (by omega)]; decide))
    refine g_null (q := 22) C dX3_partyAt_21 rfl ?_
    exact g_aret C RT9 dX3_partyAt_22 (Or.inl rfl) (px rfl)

end X15
end
