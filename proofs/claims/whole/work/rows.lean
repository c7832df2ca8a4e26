section
-- ===== PART A: goes FIRST, ahead of the names: the tables' words, and 'selects' of the private methods out of them =====
/-- a private method of a class that the tables say can be made, by its rows of tables_1 -/
def lw_okq (q : MethodName × Nat) : Prop := (q.1.cls ≠ "java/lang/invoke/MethodHandle" ∧ q.1.cls ≠ "java/lang/invoke/VarHandle") ∧ Cond.instantiable q.1.cls q.2 ∈ tables_1 ∧ Cond.privateMethod q.1 ∈ tables_1 ∧ Cond.instanceMethod q.1 ∈ tables_1
theorem lw_p0 : lw_okq (⟨"TooMany", "flightAt", "(I)LTooMany$Flight;"⟩, 8) := ⟨⟨by decide +kernel, by decide +kernel⟩, List.mem_of_getElem? (i := 12) (by decide +kernel), List.mem_of_getElem? (i := 154) (by decide +kernel), List.mem_of_getElem? (i := 155) (by decide +kernel)⟩
theorem lw_p1 : lw_okq (⟨"TooMany", "setChange", "(I)I"⟩, 8) := ⟨⟨by decide +kernel, by decide +kernel⟩, List.mem_of_getElem? (i := 12) (by decide +kernel), List.mem_of_getElem? (i := 210) (by decide +kernel), List.mem_of_getElem? (i := 211) (by decide +kernel)⟩
theorem lw_p2 : lw_okq (⟨"TooMany", "loadOf", "(LTooMany$Flight;)I"⟩, 8) := ⟨⟨by decide +kernel, by decide +kernel⟩, List.mem_of_getElem? (i := 12) (by decide +kernel), List.mem_of_getElem? (i := 218) (by decide +kernel), List.mem_of_getElem? (i := 219) (by decide +kernel)⟩
theorem lw_p3 : lw_okq (⟨"TooMany", "overOf", "(LTooMany$Flight;)I"⟩, 8) := ⟨⟨by decide +kernel, by decide +kernel⟩, List.mem_of_getElem? (i := 12) (by decide +kernel), List.mem_of_getElem? (i := 226) (by decide +kernel), List.mem_of_getElem? (i := 227) (by decide +kernel)⟩
theorem lw_p4 : lw_okq (⟨"TooMany", "mustPeople", "(LTooMany$Flight;)I"⟩, 8) := ⟨⟨by decide +kernel, by decide +kernel⟩, List.mem_of_getElem? (i := 12) (by decide +kernel), List.mem_of_getElem? (i := 233) (by decide +kernel), List.mem_of_getElem? (i := 234) (by decide +kernel)⟩
theorem lw_p5 : lw_okq (⟨"TooMany", "flyingPeople", "()I"⟩, 8) := ⟨⟨by decide +kernel, by decide +kernel⟩, List.mem_of_getElem? (i := 12) (by decide +kernel), List.mem_of_getElem? (i := 241) (by decide +kernel), List.mem_of_getElem? (i := 242) (by decide +kernel)⟩
theorem lw_p6 : lw_okq (⟨"TooMany", "peopleIn", "(I)I"⟩, 8) := ⟨⟨by decide +kernel, by decide +kernel⟩, List.mem_of_getElem? (i := 12) (by decide +kernel), List.mem_of_getElem? (i := 245) (by decide +kernel), List.mem_of_getElem? (i := 246) (by decide +kernel)⟩
theorem lw_p7 : lw_okq (⟨"TooMany", "peopleWithWay", "()I"⟩, 8) := ⟨⟨by decide +kernel, by decide +kernel⟩, List.mem_of_getElem? (i := 12) (by decide +kernel), List.mem_of_getElem? (i := 249) (by decide +kernel), List.mem_of_getElem? (i := 250) (by decide +kernel)⟩
theorem lw_p8 : lw_okq (⟨"TooMany", "allClaims", "()I"⟩, 8) := ⟨⟨by decide +kernel, by decide +kernel⟩, List.mem_of_getElem? (i := 12) (by decide +kernel), List.mem_of_getElem? (i := 253) (by decide +kernel), List.mem_of_getElem? (i := 254) (by decide +kernel)⟩
theorem lw_p9 : lw_okq (⟨"TooMany", "claimOf", "(LTooMany$Party;)I"⟩, 8) := ⟨⟨by decide +kernel, by decide +kernel⟩, List.mem_of_getElem? (i := 12) (by decide +kernel), List.mem_of_getElem? (i := 257) (by decide +kernel), List.mem_of_getElem? (i := 258) (by decide +kernel)⟩
theorem lw_p10 : lw_okq (⟨"TooMany", "baseFee", "(I)I"⟩, 8) := ⟨⟨by decide +kernel, by decide +kernel⟩, List.mem_of_getElem? (i := 12) (by decide +kernel), List.mem_of_getElem? (i := 261) (by decide +kernel), List.mem_of_getElem? (i := 262) (by decide +kernel)⟩
theorem lw_p11 : lw_okq (⟨"TooMany", "cheapestDeal", "(LTooMany$Flight;I)J"⟩, 8) := ⟨⟨by decide +kernel, by decide +kernel⟩, List.mem_of_getElem? (i := 12) (by decide +kernel), List.mem_of_getElem? (i := 278) (by decide +kernel), List.mem_of_getElem? (i := 279) (by decide +kernel)⟩
theorem lw_p12 : lw_okq (⟨"TooMany", "offerDeals", "(IIJ)V"⟩, 8) := ⟨⟨by decide +kernel, by decide +kernel⟩, List.mem_of_getElem? (i := 12) (by decide +kernel), List.mem_of_getElem? (i := 288) (by decide +kernel), List.mem_of_getElem? (i := 289) (by decide +kernel)⟩
theorem lw_p13 : lw_okq (⟨"TooMany", "leastDeal", "(II)J"⟩, 8) := ⟨⟨by decide +kernel, by decide +kernel⟩, List.mem_of_getElem? (i := 12) (by decide +kernel), List.mem_of_getElem? (i := 292) (by decide +kernel), List.mem_of_getElem? (i := 293) (by decide +kernel)⟩
theorem lw_p14 : lw_okq (⟨"TooMany", "lowestBidders", "(LTooMany$Flight;I)I"⟩, 8) := ⟨⟨by decide +kernel, by decide +kernel⟩, List.mem_of_getElem? (i := 12) (by decide +kernel), List.mem_of_getElem? (i := 314) (by decide +kernel), List.mem_of_getElem? (i := 315) (by decide +kernel)⟩
theorem lw_p15 : lw_okq (⟨"TooMany", "nextBidder", "(LTooMany$Flight;I)I"⟩, 8) := ⟨⟨by decide +kernel, by decide +kernel⟩, List.mem_of_getElem? (i := 12) (by decide +kernel), List.mem_of_getElem? (i := 318) (by decide +kernel), List.mem_of_getElem? (i := 319) (by decide +kernel)⟩
def lw_privs_1 : List (MethodName × Nat) := [(⟨"TooMany", "flightAt", "(I)LTooMany$Flight;"⟩, 8), (⟨"TooMany", "setChange", "(I)I"⟩, 8), (⟨"TooMany", "loadOf", "(LTooMany$Flight;)I"⟩, 8), (⟨"TooMany", "overOf", "(LTooMany$Flight;)I"⟩, 8), (⟨"TooMany", "mustPeople", "(LTooMany$Flight;)I"⟩, 8), (⟨"TooMany", "flyingPeople", "()I"⟩, 8), (⟨"TooMany", "peopleIn", "(I)I"⟩, 8), (⟨"TooMany", "peopleWithWay", "()I"⟩, 8), (⟨"TooMany", "allClaims", "()I"⟩, 8), (⟨"TooMany", "claimOf", "(LTooMany$Party;)I"⟩, 8), (⟨"TooMany", "baseFee", "(I)I"⟩, 8), (⟨"TooMany", "cheapestDeal", "(LTooMany$Flight;I)J"⟩, 8), (⟨"TooMany", "offerDeals", "(IIJ)V"⟩, 8), (⟨"TooMany", "leastDeal", "(II)J"⟩, 8), (⟨"TooMany", "lowestBidders", "(LTooMany$Flight;I)I"⟩, 8), (⟨"TooMany", "nextBidder", "(LTooMany$Flight;I)I"⟩, 8)]
theorem lw_r1 : ∀ q ∈ lw_privs_1, lw_okq q := List.forall_mem_cons.mpr ⟨lw_p0, List.forall_mem_cons.mpr ⟨lw_p1, List.forall_mem_cons.mpr ⟨lw_p2, List.forall_mem_cons.mpr ⟨lw_p3, List.forall_mem_cons.mpr ⟨lw_p4, List.forall_mem_cons.mpr ⟨lw_p5, List.forall_mem_cons.mpr ⟨lw_p6, List.forall_mem_cons.mpr ⟨lw_p7, List.forall_mem_cons.mpr ⟨lw_p8, List.forall_mem_cons.mpr ⟨lw_p9, List.forall_mem_cons.mpr ⟨lw_p10, List.forall_mem_cons.mpr ⟨lw_p11, List.forall_mem_cons.mpr ⟨lw_p12, List.forall_mem_cons.mpr ⟨lw_p13, List.forall_mem_cons.mpr ⟨lw_p14, List.forall_mem_cons.mpr ⟨lw_p15, fun _ h => absurd h List.not_mem_nil⟩⟩⟩⟩⟩⟩⟩⟩⟩⟩⟩⟩⟩⟩⟩⟩
theorem lw_p16 : lw_okq (⟨"TooMany", "highestBid", "(I)I"⟩, 8) := ⟨⟨by decide +kernel, by decide +kernel⟩, List.mem_of_getElem? (i := 12) (by decide +kernel), List.mem_of_getElem? (i := 322) (by decide +kernel), List.mem_of_getElem? (i := 323) (by decide +kernel)⟩
theorem lw_p17 : lw_okq (⟨"TooMany", "leavablePeople", "(LTooMany$Flight;)I"⟩, 8) := ⟨⟨by decide +kernel, by decide +kernel⟩, List.mem_of_getElem? (i := 12) (by decide +kernel), List.mem_of_getElem? (i := 333) (by decide +kernel), List.mem_of_getElem? (i := 334) (by decide +kernel)⟩
theorem lw_p18 : lw_okq (⟨"TooMany", "nextToLeave", "(LTooMany$Flight;)LTooMany$Party;"⟩, 8) := ⟨⟨by decide +kernel, by decide +kernel⟩, List.mem_of_getElem? (i := 12) (by decide +kernel), List.mem_of_getElem? (i := 337) (by decide +kernel), List.mem_of_getElem? (i := 338) (by decide +kernel)⟩
theorem lw_p19 : lw_okq (⟨"TooMany", "partyAt", "(I)LTooMany$Party;"⟩, 8) := ⟨⟨by decide +kernel, by decide +kernel⟩, List.mem_of_getElem? (i := 12) (by decide +kernel), List.mem_of_getElem? (i := 345) (by decide +kernel), List.mem_of_getElem? (i := 346) (by decide +kernel)⟩
theorem lw_p20 : lw_okq (⟨"TooMany", "isWay", "(LTooMany$Party;LTooMany$Flight;LTooMany$Flight;)Z"⟩, 8) := ⟨⟨by decide +kernel, by decide +kernel⟩, List.mem_of_getElem? (i := 12) (by decide +kernel), List.mem_of_getElem? (i := 362) (by decide +kernel), List.mem_of_getElem? (i := 363) (by decide +kernel)⟩
theorem lw_p21 : lw_okq (⟨"TooMany", "addStranded", "(I)V"⟩, 8) := ⟨⟨by decide +kernel, by decide +kernel⟩, List.mem_of_getElem? (i := 12) (by decide +kernel), List.mem_of_getElem? (i := 384) (by decide +kernel), List.mem_of_getElem? (i := 385) (by decide +kernel)⟩
theorem lw_p22 : lw_okq (⟨"TooMany$Mover", "lastTwin", "(LTooMany$Party;)I"⟩, 13) := ⟨⟨by decide +kernel, by decide +kernel⟩, List.mem_of_getElem? (i := 24) (by decide +kernel), List.mem_of_getElem? (i := 392) (by decide +kernel), List.mem_of_getElem? (i := 393) (by decide +kernel)⟩
theorem lw_p23 : lw_okq (⟨"TooMany", "addWays", "(LTooMany$Party;)V"⟩, 8) := ⟨⟨by decide +kernel, by decide +kernel⟩, List.mem_of_getElem? (i := 12) (by decide +kernel), List.mem_of_getElem? (i := 396) (by decide +kernel), List.mem_of_getElem? (i := 397) (by decide +kernel)⟩
theorem lw_p24 : lw_okq (⟨"TooMany$Mover", "worthOf", "(III)J"⟩, 13) := ⟨⟨by decide +kernel, by decide +kernel⟩, List.mem_of_getElem? (i := 24) (by decide +kernel), List.mem_of_getElem? (i := 405) (by decide +kernel), List.mem_of_getElem? (i := 406) (by decide +kernel)⟩
theorem lw_p25 : lw_okq (⟨"TooMany$Mover", "putWay", "(ILTooMany$Flight;LTooMany$Flight;IJ)V"⟩, 13) := ⟨⟨by decide +kernel, by decide +kernel⟩, List.mem_of_getElem? (i := 24) (by decide +kernel), List.mem_of_getElem? (i := 410) (by decide +kernel), List.mem_of_getElem? (i := 411) (by decide +kernel)⟩
theorem lw_p26 : lw_okq (⟨"TooMany$Mover", "choose", "(IJ)V"⟩, 13) := ⟨⟨by decide +kernel, by decide +kernel⟩, List.mem_of_getElem? (i := 24) (by decide +kernel), List.mem_of_getElem? (i := 418) (by decide +kernel), List.mem_of_getElem? (i := 419) (by decide +kernel)⟩
theorem lw_p27 : lw_okq (⟨"TooMany$Mover", "keepIfBetter", "(J)V"⟩, 13) := ⟨⟨by decide +kernel, by decide +kernel⟩, List.mem_of_getElem? (i := 24) (by decide +kernel), List.mem_of_getElem? (i := 422) (by decide +kernel), List.mem_of_getElem? (i := 423) (by decide +kernel)⟩
theorem lw_p28 : lw_okq (⟨"TooMany$Mover", "mayBeat", "(IJ)Z"⟩, 13) := ⟨⟨by decide +kernel, by decide +kernel⟩, List.mem_of_getElem? (i := 24) (by decide +kernel), List.mem_of_getElem? (i := 426) (by decide +kernel), List.mem_of_getElem? (i := 427) (by decide +kernel)⟩
theorem lw_p29 : lw_okq (⟨"TooMany$Mover", "mostWorth", "(I)J"⟩, 13) := ⟨⟨by decide +kernel, by decide +kernel⟩, List.mem_of_getElem? (i := 24) (by decide +kernel), List.mem_of_getElem? (i := 430) (by decide +kernel), List.mem_of_getElem? (i := 431) (by decide +kernel)⟩
theorem lw_p30 : lw_okq (⟨"TooMany$Mover", "fits", "(II)Z"⟩, 13) := ⟨⟨by decide +kernel, by decide +kernel⟩, List.mem_of_getElem? (i := 24) (by decide +kernel), List.mem_of_getElem? (i := 434) (by decide +kernel), List.mem_of_getElem? (i := 435) (by decide +kernel)⟩
theorem lw_p31 : lw_okq (⟨"TooMany$Mover", "twinPlace", "(I)I"⟩, 13) := ⟨⟨by decide +kernel, by decide +kernel⟩, List.mem_of_getElem? (i := 24) (by decide +kernel), List.mem_of_getElem? (i := 438) (by decide +kernel), List.mem_of_getElem? (i := 439) (by decide +kernel)⟩
def lw_privs_2 : List (MethodName × Nat) := [(⟨"TooMany", "highestBid", "(I)I"⟩, 8), (⟨"TooMany", "leavablePeople", "(LTooMany$Flight;)I"⟩, 8), (⟨"TooMany", "nextToLeave", "(LTooMany$Flight;)LTooMany$Party;"⟩, 8), (⟨"TooMany", "partyAt", "(I)LTooMany$Party;"⟩, 8), (⟨"TooMany", "isWay", "(LTooMany$Party;LTooMany$Flight;LTooMany$Flight;)Z"⟩, 8), (⟨"TooMany", "addStranded", "(I)V"⟩, 8), (⟨"TooMany$Mover", "lastTwin", "(LTooMany$Party;)I"⟩, 13), (⟨"TooMany", "addWays", "(LTooMany$Party;)V"⟩, 8), (⟨"TooMany$Mover", "worthOf", "(III)J"⟩, 13), (⟨"TooMany$Mover", "putWay", "(ILTooMany$Flight;LTooMany$Flight;IJ)V"⟩, 13), (⟨"TooMany$Mover", "choose", "(IJ)V"⟩, 13), (⟨"TooMany$Mover", "keepIfBetter", "(J)V"⟩, 13), (⟨"TooMany$Mover", "mayBeat", "(IJ)Z"⟩, 13), (⟨"TooMany$Mover", "mostWorth", "(I)J"⟩, 13), (⟨"TooMany$Mover", "fits", "(II)Z"⟩, 13), (⟨"TooMany$Mover", "twinPlace", "(I)I"⟩, 13)]
theorem lw_r2 : ∀ q ∈ lw_privs_2, lw_okq q := List.forall_mem_cons.mpr ⟨lw_p16, List.forall_mem_cons.mpr ⟨lw_p17, List.forall_mem_cons.mpr ⟨lw_p18, List.forall_mem_cons.mpr ⟨lw_p19, List.forall_mem_cons.mpr ⟨lw_p20, List.forall_mem_cons.mpr ⟨lw_p21, List.forall_mem_cons.mpr ⟨lw_p22, List.forall_mem_cons.mpr ⟨lw_p23, List.forall_mem_cons.mpr ⟨lw_p24, List.forall_mem_cons.mpr ⟨lw_p25, List.forall_mem_cons.mpr ⟨lw_p26, List.forall_mem_cons.mpr ⟨lw_p27, List.forall_mem_cons.mpr ⟨lw_p28, List.forall_mem_cons.mpr ⟨lw_p29, List.forall_mem_cons.mpr ⟨lw_p30, List.forall_mem_cons.mpr ⟨lw_p31, fun _ h => absurd h List.not_mem_nil⟩⟩⟩⟩⟩⟩⟩⟩⟩⟩⟩⟩⟩⟩⟩⟩
theorem lw_p32 : lw_okq (⟨"TooMany$Mover", "betterHasRoom", "(II)Z"⟩, 13) := ⟨⟨by decide +kernel, by decide +kernel⟩, List.mem_of_getElem? (i := 24) (by decide +kernel), List.mem_of_getElem? (i := 442) (by decide +kernel), List.mem_of_getElem? (i := 443) (by decide +kernel)⟩
theorem lw_p33 : lw_okq (⟨"TooMany$Mover", "hasRoom", "(IILTooMany$Flight;)Z"⟩, 13) := ⟨⟨by decide +kernel, by decide +kernel⟩, List.mem_of_getElem? (i := 24) (by decide +kernel), List.mem_of_getElem? (i := 446) (by decide +kernel), List.mem_of_getElem? (i := 447) (by decide +kernel)⟩
theorem lw_p34 : lw_okq (⟨"TooMany$Mover", "fill", "(II)V"⟩, 13) := ⟨⟨by decide +kernel, by decide +kernel⟩, List.mem_of_getElem? (i := 24) (by decide +kernel), List.mem_of_getElem? (i := 450) (by decide +kernel), List.mem_of_getElem? (i := 451) (by decide +kernel)⟩
theorem lw_p35 : lw_okq (⟨"java/lang/Throwable", "fillInStackTrace", "(I)Ljava/lang/Throwable;"⟩, 6) := ⟨⟨by decide +kernel, by decide +kernel⟩, List.mem_of_getElem? (i := 511) (by decide +kernel), List.mem_of_getElem? (i := 509) (by decide +kernel), List.mem_of_getElem? (i := 510) (by decide +kernel)⟩
theorem lw_p36 : lw_okq (⟨"TooManyModel", "isFlight", "(I)Z"⟩, 20) := ⟨⟨by decide +kernel, by decide +kernel⟩, List.mem_of_getElem? (i := 545) (by decide +kernel), List.mem_of_getElem? (i := 627) (by decide +kernel), List.mem_of_getElem? (i := 628) (by decide +kernel)⟩
theorem lw_p37 : lw_okq (⟨"TooManyModel", "load", "(I)I"⟩, 20) := ⟨⟨by decide +kernel, by decide +kernel⟩, List.mem_of_getElem? (i := 545) (by decide +kernel), List.mem_of_getElem? (i := 643) (by decide +kernel), List.mem_of_getElem? (i := 644) (by decide +kernel)⟩
theorem lw_p38 : lw_okq (⟨"TooManyModel", "get", "(II)I"⟩, 20) := ⟨⟨by decide +kernel, by decide +kernel⟩, List.mem_of_getElem? (i := 545) (by decide +kernel), List.mem_of_getElem? (i := 647) (by decide +kernel), List.mem_of_getElem? (i := 648) (by decide +kernel)⟩
theorem lw_p39 : lw_okq (⟨"TooManyModel", "over", "(I)I"⟩, 20) := ⟨⟨by decide +kernel, by decide +kernel⟩, List.mem_of_getElem? (i := 545) (by decide +kernel), List.mem_of_getElem? (i := 651) (by decide +kernel), List.mem_of_getElem? (i := 652) (by decide +kernel)⟩
theorem lw_p40 : lw_okq (⟨"TooManyModel", "of7", "(II)I"⟩, 20) := ⟨⟨by decide +kernel, by decide +kernel⟩, List.mem_of_getElem? (i := 545) (by decide +kernel), List.mem_of_getElem? (i := 655) (by decide +kernel), List.mem_of_getElem? (i := 656) (by decide +kernel)⟩
theorem lw_p41 : lw_okq (⟨"TooManyModel", "isParty", "(I)Z"⟩, 20) := ⟨⟨by decide +kernel, by decide +kernel⟩, List.mem_of_getElem? (i := 545) (by decide +kernel), List.mem_of_getElem? (i := 664) (by decide +kernel), List.mem_of_getElem? (i := 665) (by decide +kernel)⟩
theorem lw_p42 : lw_okq (⟨"TooManyModel", "lateOf", "(I)I"⟩, 20) := ⟨⟨by decide +kernel, by decide +kernel⟩, List.mem_of_getElem? (i := 545) (by decide +kernel), List.mem_of_getElem? (i := 668) (by decide +kernel), List.mem_of_getElem? (i := 669) (by decide +kernel)⟩
theorem lw_p43 : lw_okq (⟨"TooManyModel", "claim", "(I)I"⟩, 20) := ⟨⟨by decide +kernel, by decide +kernel⟩, List.mem_of_getElem? (i := 545) (by decide +kernel), List.mem_of_getElem? (i := 672) (by decide +kernel), List.mem_of_getElem? (i := 673) (by decide +kernel)⟩
theorem lw_p44 : lw_okq (⟨"TooManyModel", "findBest", "(I)I"⟩, 20) := ⟨⟨by decide +kernel, by decide +kernel⟩, List.mem_of_getElem? (i := 545) (by decide +kernel), List.mem_of_getElem? (i := 684) (by decide +kernel), List.mem_of_getElem? (i := 685) (by decide +kernel)⟩
theorem lw_p45 : lw_okq (⟨"TooManyModel", "mayGive", "(II)Z"⟩, 20) := ⟨⟨by decide +kernel, by decide +kernel⟩, List.mem_of_getElem? (i := 545) (by decide +kernel), List.mem_of_getElem? (i := 689) (by decide +kernel), List.mem_of_getElem? (i := 690) (by decide +kernel)⟩
theorem lw_p46 : lw_okq (⟨"TooManyModel", "give", "(II)V"⟩, 20) := ⟨⟨by decide +kernel, by decide +kernel⟩, List.mem_of_getElem? (i := 545) (by decide +kernel), List.mem_of_getElem? (i := 697) (by decide +kernel), List.mem_of_getElem? (i := 698) (by decide +kernel)⟩
theorem lw_p47 : lw_okq (⟨"TooManyModel", "put", "(III)V"⟩, 20) := ⟨⟨by decide +kernel, by decide +kernel⟩, List.mem_of_getElem? (i := 545) (by decide +kernel), List.mem_of_getElem? (i := 701) (by decide +kernel), List.mem_of_getElem? (i := 702) (by decide +kernel)⟩
def lw_privs_3 : List (MethodName × Nat) := [(⟨"TooMany$Mover", "betterHasRoom", "(II)Z"⟩, 13), (⟨"TooMany$Mover", "hasRoom", "(IILTooMany$Flight;)Z"⟩, 13), (⟨"TooMany$Mover", "fill", "(II)V"⟩, 13), (⟨"java/lang/Throwable", "fillInStackTrace", "(I)Ljava/lang/Throwable;"⟩, 6), (⟨"TooManyModel", "isFlight", "(I)Z"⟩, 20), (⟨"TooManyModel", "load", "(I)I"⟩, 20), (⟨"TooManyModel", "get", "(II)I"⟩, 20), (⟨"TooManyModel", "over", "(I)I"⟩, 20), (⟨"TooManyModel", "of7", "(II)I"⟩, 20), (⟨"TooManyModel", "isParty", "(I)Z"⟩, 20), (⟨"TooManyModel", "lateOf", "(I)I"⟩, 20), (⟨"TooManyModel", "claim", "(I)I"⟩, 20), (⟨"TooManyModel", "findBest", "(I)I"⟩, 20), (⟨"TooManyModel", "mayGive", "(II)Z"⟩, 20), (⟨"TooManyModel", "give", "(II)V"⟩, 20), (⟨"TooManyModel", "put", "(III)V"⟩, 20)]
theorem lw_r3 : ∀ q ∈ lw_privs_3, lw_okq q := List.forall_mem_cons.mpr ⟨lw_p32, List.forall_mem_cons.mpr ⟨lw_p33, List.forall_mem_cons.mpr ⟨lw_p34, List.forall_mem_cons.mpr ⟨lw_p35, List.forall_mem_cons.mpr ⟨lw_p36, List.forall_mem_cons.mpr ⟨lw_p37, List.forall_mem_cons.mpr ⟨lw_p38, List.forall_mem_cons.mpr ⟨lw_p39, List.forall_mem_cons.mpr ⟨lw_p40, List.forall_mem_cons.mpr ⟨lw_p41, List.forall_mem_cons.mpr ⟨lw_p42, List.forall_mem_cons.mpr ⟨lw_p43, List.forall_mem_cons.mpr ⟨lw_p44, List.forall_mem_cons.mpr ⟨lw_p45, List.forall_mem_cons.mpr ⟨lw_p46, List.forall_mem_cons.mpr ⟨lw_p47, fun _ h => absurd h List.not_mem_nil⟩⟩⟩⟩⟩⟩⟩⟩⟩⟩⟩⟩⟩⟩⟩⟩
theorem lw_p48 : lw_okq (⟨"TooManyModel", "lateBy", "(III)I"⟩, 20) := ⟨⟨by decide +kernel, by decide +kernel⟩, List.mem_of_getElem? (i := 545) (by decide +kernel), List.mem_of_getElem? (i := 721) (by decide +kernel), List.mem_of_getElem? (i := 722) (by decide +kernel)⟩
theorem lw_p49 : lw_okq (⟨"TooManyModel", "strandedMany", "()I"⟩, 20) := ⟨⟨by decide +kernel, by decide +kernel⟩, List.mem_of_getElem? (i := 545) (by decide +kernel), List.mem_of_getElem? (i := 729) (by decide +kernel), List.mem_of_getElem? (i := 730) (by decide +kernel)⟩
theorem lw_p50 : lw_okq (⟨"TooManyModel", "findWays", "(I)V"⟩, 20) := ⟨⟨by decide +kernel, by decide +kernel⟩, List.mem_of_getElem? (i := 545) (by decide +kernel), List.mem_of_getElem? (i := 737) (by decide +kernel), List.mem_of_getElem? (i := 738) (by decide +kernel)⟩
theorem lw_p51 : lw_okq (⟨"TooManyModel", "goOn", "(III)V"⟩, 20) := ⟨⟨by decide +kernel, by decide +kernel⟩, List.mem_of_getElem? (i := 545) (by decide +kernel), List.mem_of_getElem? (i := 744) (by decide +kernel), List.mem_of_getElem? (i := 745) (by decide +kernel)⟩
theorem lw_p52 : lw_okq (⟨"TooManyModel", "hasRoom", "(II)Z"⟩, 20) := ⟨⟨by decide +kernel, by decide +kernel⟩, List.mem_of_getElem? (i := 545) (by decide +kernel), List.mem_of_getElem? (i := 748) (by decide +kernel), List.mem_of_getElem? (i := 749) (by decide +kernel)⟩
def lw_privs_4 : List (MethodName × Nat) := [(⟨"TooManyModel", "lateBy", "(III)I"⟩, 20), (⟨"TooManyModel", "strandedMany", "()I"⟩, 20), (⟨"TooManyModel", "findWays", "(I)V"⟩, 20), (⟨"TooManyModel", "goOn", "(III)V"⟩, 20), (⟨"TooManyModel", "hasRoom", "(II)Z"⟩, 20)]
theorem lw_r4 : ∀ q ∈ lw_privs_4, lw_okq q := List.forall_mem_cons.mpr ⟨lw_p48, List.forall_mem_cons.mpr ⟨lw_p49, List.forall_mem_cons.mpr ⟨lw_p50, List.forall_mem_cons.mpr ⟨lw_p51, List.forall_mem_cons.mpr ⟨lw_p52, fun _ h => absurd h List.not_mem_nil⟩⟩⟩⟩⟩
def lw_privs : List (MethodName × Nat) := lw_privs_1 ++ (lw_privs_2 ++ (lw_privs_3 ++ (lw_privs_4)))
def lw_tbl : List Cond := k2_sels lw_privs ++ tables_1
theorem lw_privs_ok : ∀ q ∈ lw_privs, lw_okq q := by
  show ∀ q ∈ lw_privs_1 ++ (lw_privs_2 ++ (lw_privs_3 ++ (lw_privs_4))), lw_okq q
  exact List.forall_mem_append.mpr ⟨lw_r1, List.forall_mem_append.mpr ⟨lw_r2, List.forall_mem_append.mpr ⟨lw_r3, lw_r4⟩⟩⟩
end
section
def RX0 : String := "TooMany$Flight"
def TX0 : u_T := fun k => match k with
  | 0 => ("TooMany$Flight", "number", "I", true)
  | 1 => ("TooMany$Flight", "from", "I", true)
  | 2 => ("TooMany$Flight", "to", "I", true)
  | 3 => ("TooMany$Flight", "departs", "I", true)
  | 4 => ("TooMany$Flight", "arrives", "I", true)
  | 5 => ("TooMany$Flight", "seats", "I", true)
  | 6 => ("TooMany$Flight", "miles", "I", true)
  | 7 => ("TooMany$Flight", "isOff", "Z", false)
  | _ => ("TooMany$Flight", "free", "I", false)
def tyX0 : Nat → FieldType := fun k => match k with
  | 0 => .int
  | 1 => .int
  | 2 => .int
  | 3 => .int
  | 4 => .int
  | 5 => .int
  | 6 => .int
  | 7 => .boolean
  | _ => .int
abbrev wsX00 : List Cond := u_ws RX0 TX0 9
theorem nmX0 : ∀ a, a < 9 → ∀ b, b < 9 → a ≠ b → (TX0 a).2.1 ≠ (TX0 b).2.1 := by decide +kernel
theorem tyX0_ok : ∀ k, k < 9 → parseFieldDescriptor (TX0 k).2.2.1 = some (tyX0 k) := by decide +kernel
abbrev cX0_init : ByteArray := prog_2_method_1_code
def yX0_init : MethodName := ⟨RX0, "<init>", "(IIIIIII)V"⟩
def RX1 : String := "TooMany$Mover"
def TX1 : u_T := fun k => match k with
  | 0 => ("TooMany$Mover", "party", "[LTooMany$Party;", true)
  | 1 => ("TooMany$Mover", "turn", "[I", true)
  | 2 => ("TooMany$Mover", "twin", "[I", true)
  | 3 => ("TooMany$Mover", "ways", "[I", true)
  | 4 => ("TooMany$Mover", "pick", "[I", true)
  | 5 => ("TooMany$Mover", "best", "[I", true)
  | 6 => ("TooMany$Mover", "peopleFrom", "[I", true)
  | 7 => ("TooMany$Mover", "first", "[LTooMany$Flight;", true)
  | 8 => ("TooMany$Mover", "second", "[LTooMany$Flight;", true)
  | 9 => ("TooMany$Mover", "place", "[I", true)
  | 10 => ("TooMany$Mover", "worth", "[J", true)
  | 11 => ("TooMany$Mover", "bestSum", "J", false)
  | _ => ("TooMany$Mover", "count", "I", false)
def tyX1 : Nat → FieldType := fun k => match k with
  | 0 => .array (.object "TooMany$Party")
  | 1 => .array .int
  | 2 => .array .int
  | 3 => .array .int
  | 4 => .array .int
  | 5 => .array .int
  | 6 => .array .int
  | 7 => .array (.object "TooMany$Flight")
  | 8 => .array (.object "TooMany$Flight")
  | 9 => .array .int
  | 10 => .array .long
  | 11 => .long
  | _ => .int
abbrev wsX10 : List Cond := u_ws RX1 TX1 13
theorem nmX1 : ∀ a, a < 13 → ∀ b, b < 13 → a ≠ b → (TX1 a).2.1 ≠ (TX1 b).2.1 := by decide +kernel
theorem tyX1_ok : ∀ k, k < 13 → parseFieldDescriptor (TX1 k).2.2.1 = some (tyX1 k) := by decide +kernel
abbrev cX1_init : ByteArray := prog_3_method_1_code
def yX1_init : MethodName := ⟨RX1, "<init>", "()V"⟩
abbrev cX1_begin : ByteArray := prog_3_method_2_code
def yX1_begin : MethodName := ⟨RX1, "begin", "()V"⟩
abbrev cX1_addParty : ByteArray := prog_3_method_3_code
def yX1_addParty : MethodName := ⟨RX1, "addParty", "(LTooMany$Party;I)V"⟩
abbrev cX1_addWay : ByteArray := prog_3_method_4_code
def yX1_addWay : MethodName := ⟨RX1, "addWay", "(LTooMany$Flight;LTooMany$Flight;)V"⟩
abbrev cX1_findBest : ByteArray := prog_3_method_5_code
def yX1_findBest : MethodName := ⟨RX1, "findBest", "()V"⟩
abbrev cX1_giveWays : ByteArray := prog_3_method_6_code
def yX1_giveWays : MethodName := ⟨RX1, "giveWays", "()I"⟩
abbrev cX1_lastTwin : ByteArray := prog_3_method_7_code
def yX1_lastTwin : MethodName := ⟨RX1, "lastTwin", "(LTooMany$Party;)I"⟩
abbrev cX1_worthOf : ByteArray := prog_3_method_8_code
def yX1_worthOf : MethodName := ⟨RX1, "worthOf", "(III)J"⟩
abbrev cX1_putWay : ByteArray := prog_3_method_9_code
def yX1_putWay : MethodName := ⟨RX1, "putWay", "(ILTooMany$Flight;LTooMany$Flight;IJ)V"⟩
abbrev cX1_choose : ByteArray := prog_3_method_10_code
def yX1_choose : MethodName := ⟨RX1, "choose", "(IJ)V"⟩
abbrev cX1_twinPlace : ByteArray := prog_3_method_11_code
def yX1_twinPlace : MethodName := ⟨RX1, "twinPlace", "(I)I"⟩
abbrev cX1_keepIfBetter : ByteArray := prog_3_method_12_code
def yX1_keepIfBetter : MethodName := ⟨RX1, "keepIfBetter", "(J)V"⟩
abbrev cX1_mayBeat : ByteArray := prog_3_method_13_code
def yX1_mayBeat : MethodName := ⟨RX1, "mayBeat", "(IJ)Z"⟩
abbrev cX1_mostWorth : ByteArray := prog_3_method_14_code
def yX1_mostWorth : MethodName := ⟨RX1, "mostWorth", "(I)J"⟩
abbrev cX1_fits : ByteArray := prog_3_method_15_code
def yX1_fits : MethodName := ⟨RX1, "fits", "(II)Z"⟩
abbrev cX1_fill : ByteArray := prog_3_method_16_code
def yX1_fill : MethodName := ⟨RX1, "fill", "(II)V"⟩
abbrev cX1_betterHasRoom : ByteArray := prog_3_method_17_code
def yX1_betterHasRoom : MethodName := ⟨RX1, "betterHasRoom", "(II)Z"⟩
abbrev cX1_hasRoom : ByteArray := prog_3_method_18_code
def yX1_hasRoom : MethodName := ⟨RX1, "hasRoom", "(IILTooMany$Flight;)Z"⟩
def RX2 : String := "TooMany$Party"
def TX2 : u_T := fun k => match k with
  | 0 => ("TooMany$Party", "own", "LTooMany$Flight;", true)
  | 1 => ("TooMany$Party", "size", "I", true)
  | 2 => ("TooMany$Party", "rank", "I", true)
  | 3 => ("TooMany$Party", "bid", "I", true)
  | 4 => ("TooMany$Party", "must", "Z", true)
  | 5 => ("TooMany$Party", "state", "I", false)
  | 6 => ("TooMany$Party", "coin", "I", false)
  | 7 => ("TooMany$Party", "first", "LTooMany$Flight;", false)
  | _ => ("TooMany$Party", "second", "LTooMany$Flight;", false)
def tyX2 : Nat → FieldType := fun k => match k with
  | 0 => .object "TooMany$Flight"
  | 1 => .int
  | 2 => .int
  | 3 => .int
  | 4 => .boolean
  | 5 => .int
  | 6 => .int
  | 7 => .object "TooMany$Flight"
  | _ => .object "TooMany$Flight"
abbrev wsX20 : List Cond := u_ws RX2 TX2 9
theorem nmX2 : ∀ a, a < 9 → ∀ b, b < 9 → a ≠ b → (TX2 a).2.1 ≠ (TX2 b).2.1 := by decide +kernel
theorem tyX2_ok : ∀ k, k < 9 → parseFieldDescriptor (TX2 k).2.2.1 = some (tyX2 k) := by decide +kernel
abbrev cX2_init : ByteArray := prog_4_method_1_code
def yX2_init : MethodName := ⟨RX2, "<init>", "(LTooMany$Flight;IIIZ)V"⟩
abbrev cX2_fliesOn : ByteArray := prog_4_method_2_code
def yX2_fliesOn : MethodName := ⟨RX2, "fliesOn", "(LTooMany$Flight;)Z"⟩
abbrev cX2_wouldGive : ByteArray := prog_4_method_3_code
def yX2_wouldGive : MethodName := ⟨RX2, "wouldGive", "(LTooMany$Flight;)Z"⟩
abbrev cX2_isStranded : ByteArray := prog_4_method_4_code
def yX2_isStranded : MethodName := ⟨RX2, "isStranded", "()Z"⟩
abbrev cX2_giveUp : ByteArray := prog_4_method_5_code
def yX2_giveUp : MethodName := ⟨RX2, "giveUp", "(II)V"⟩
abbrev cX2_takeWay : ByteArray := prog_4_method_6_code
def yX2_takeWay : MethodName := ⟨RX2, "takeWay", "(LTooMany$Flight;LTooMany$Flight;)V"⟩
abbrev cX2_flyAgain : ByteArray := prog_4_method_7_code
def yX2_flyAgain : MethodName := ⟨RX2, "flyAgain", "()V"⟩
abbrev cX2_lateBy : ByteArray := prog_4_method_8_code
def yX2_lateBy : MethodName := ⟨RX2, "lateBy", "(LTooMany$Flight;LTooMany$Flight;)I"⟩
abbrev cX2_lateByWay : ByteArray := prog_4_method_9_code
def yX2_lateByWay : MethodName := ⟨RX2, "lateByWay", "()I"⟩
def RX3 : String := "TooMany"
def TX3 : u_T := fun k => match k with
  | 0 => ("TooMany", "flights", "[LTooMany$Flight;", true)
  | 1 => ("TooMany", "parties", "[LTooMany$Party;", true)
  | 2 => ("TooMany", "fees", "[I", true)
  | 3 => ("TooMany", "cheapest", "[J", true)
  | 4 => ("TooMany", "mover", "LTooMany$Mover;", true)
  | 5 => ("TooMany", "flightCount", "I", false)
  | 6 => ("TooMany", "partyCount", "I", false)
  | _ => ("TooMany", "change", "I", false)
def tyX3 : Nat → FieldType := fun k => match k with
  | 0 => .array (.object "TooMany$Flight")
  | 1 => .array (.object "TooMany$Party")
  | 2 => .array .int
  | 3 => .array .long
  | 4 => .object "TooMany$Mover"
  | 5 => .int
  | 6 => .int
  | _ => .int
abbrev wsX30 : List Cond := u_ws RX3 TX3 8
theorem nmX3 : ∀ a, a < 8 → ∀ b, b < 8 → a ≠ b → (TX3 a).2.1 ≠ (TX3 b).2.1 := by decide +kernel
theorem tyX3_ok : ∀ k, k < 8 → parseFieldDescriptor (TX3 k).2.2.1 = some (tyX3 k) := by decide +kernel
abbrev cX3_init : ByteArray := prog_1_method_1_code
def yX3_init : MethodName := ⟨RX3, "<init>", "()V"⟩
abbrev cX3_flight : ByteArray := prog_1_method_2_code
def yX3_flight : MethodName := ⟨RX3, "flight", "(IIIIII)I"⟩
abbrev cX3_off : ByteArray := prog_1_method_3_code
def yX3_off : MethodName := ⟨RX3, "off", "(IZ)Z"⟩
abbrev cX3_party : ByteArray := prog_1_method_4_code
def yX3_party : MethodName := ⟨RX3, "party", "(IIIIZ)I"⟩
abbrev cX3_set : ByteArray := prog_1_method_5_code
def yX3_set : MethodName := ⟨RX3, "set", "(II)I"⟩
abbrev cX3_told : ByteArray := prog_1_method_6_code
def yX3_told : MethodName := ⟨RX3, "told", "(II)I"⟩
abbrev cX3_of : ByteArray := prog_1_method_7_code
def yX3_of : MethodName := ⟨RX3, "of", "(II)I"⟩
abbrev cX3_count : ByteArray := prog_1_method_8_code
def yX3_count : MethodName := ⟨RX3, "count", "(I)I"⟩
abbrev cX3_cost : ByteArray := prog_1_method_9_code
def yX3_cost : MethodName := ⟨RX3, "cost", "(I)I"⟩
abbrev cX3_buy : ByteArray := prog_1_method_10_code
def yX3_buy : MethodName := ⟨RX3, "buy", "(I)I"⟩
abbrev cX3_rounds : ByteArray := prog_1_method_11_code
def yX3_rounds : MethodName := ⟨RX3, "rounds", "(III)I"⟩
abbrev cX3_leave : ByteArray := prog_1_method_12_code
def yX3_leave : MethodName := ⟨RX3, "leave", "(I)I"⟩
abbrev cX3_back : ByteArray := prog_1_method_13_code
def yX3_back : MethodName := ⟨RX3, "back", "(I)Z"⟩
abbrev cX3_late : ByteArray := prog_1_method_14_code
def yX3_late : MethodName := ⟨RX3, "late", "(III)I"⟩
abbrev cX3_stranded : ByteArray := prog_1_method_15_code
def yX3_stranded : MethodName := ⟨RX3, "stranded", "()I"⟩
abbrev cX3_move : ByteArray := prog_1_method_16_code
def yX3_move : MethodName := ⟨RX3, "move", "()I"⟩
abbrev cX3_undo : ByteArray := prog_1_method_17_code
def yX3_undo : MethodName := ⟨RX3, "undo", "()I"⟩
abbrev cX3_within : ByteArray := prog_1_method_18_code
def yX3_within : MethodName := ⟨RX3, "within", "(III)Z"⟩
abbrev cX3_has : ByteArray := prog_1_method_19_code
def yX3_has : MethodName := ⟨RX3, "has", "(JI)Z"⟩
abbrev cX3_flightAt : ByteArray := prog_1_method_20_code
def yX3_flightAt : MethodName := ⟨RX3, "flightAt", "(I)LTooMany$Flight;"⟩
abbrev cX3_partyAt : ByteArray := prog_1_method_21_code
def yX3_partyAt : MethodName := ⟨RX3, "partyAt", "(I)LTooMany$Party;"⟩
abbrev cX3_numberOf : ByteArray := prog_1_method_22_code
def yX3_numberOf : MethodName := ⟨RX3, "numberOf", "(LTooMany$Flight;)I"⟩
abbrev cX3_isOffFlight : ByteArray := prog_1_method_23_code
def yX3_isOffFlight : MethodName := ⟨RX3, "isOffFlight", "(LTooMany$Flight;)Z"⟩
abbrev cX3_setChange : ByteArray := prog_1_method_24_code
def yX3_setChange : MethodName := ⟨RX3, "setChange", "(I)I"⟩
abbrev cX3_loadOf : ByteArray := prog_1_method_25_code
def yX3_loadOf : MethodName := ⟨RX3, "loadOf", "(LTooMany$Flight;)I"⟩
abbrev cX3_overOf : ByteArray := prog_1_method_26_code
def yX3_overOf : MethodName := ⟨RX3, "overOf", "(LTooMany$Flight;)I"⟩
abbrev cX3_mustPeople : ByteArray := prog_1_method_27_code
def yX3_mustPeople : MethodName := ⟨RX3, "mustPeople", "(LTooMany$Flight;)I"⟩
abbrev cX3_flyingPeople : ByteArray := prog_1_method_28_code
def yX3_flyingPeople : MethodName := ⟨RX3, "flyingPeople", "()I"⟩
abbrev cX3_peopleIn : ByteArray := prog_1_method_29_code
def yX3_peopleIn : MethodName := ⟨RX3, "peopleIn", "(I)I"⟩
abbrev cX3_peopleWithWay : ByteArray := prog_1_method_30_code
def yX3_peopleWithWay : MethodName := ⟨RX3, "peopleWithWay", "()I"⟩
abbrev cX3_allClaims : ByteArray := prog_1_method_31_code
def yX3_allClaims : MethodName := ⟨RX3, "allClaims", "()I"⟩
abbrev cX3_claimOf : ByteArray := prog_1_method_32_code
def yX3_claimOf : MethodName := ⟨RX3, "claimOf", "(LTooMany$Party;)I"⟩
abbrev cX3_baseFee : ByteArray := prog_1_method_33_code
def yX3_baseFee : MethodName := ⟨RX3, "baseFee", "(I)I"⟩
abbrev cX3_cheapestDeal : ByteArray := prog_1_method_34_code
def yX3_cheapestDeal : MethodName := ⟨RX3, "cheapestDeal", "(LTooMany$Flight;I)J"⟩
abbrev cX3_offerDeals : ByteArray := prog_1_method_35_code
def yX3_offerDeals : MethodName := ⟨RX3, "offerDeals", "(IIJ)V"⟩
abbrev cX3_leastDeal : ByteArray := prog_1_method_36_code
def yX3_leastDeal : MethodName := ⟨RX3, "leastDeal", "(II)J"⟩
abbrev cX3_coinOfDeal : ByteArray := prog_1_method_37_code
def yX3_coinOfDeal : MethodName := ⟨RX3, "coinOfDeal", "(J)I"⟩
abbrev cX3_lowestBidders : ByteArray := prog_1_method_38_code
def yX3_lowestBidders : MethodName := ⟨RX3, "lowestBidders", "(LTooMany$Flight;I)I"⟩
abbrev cX3_nextBidder : ByteArray := prog_1_method_39_code
def yX3_nextBidder : MethodName := ⟨RX3, "nextBidder", "(LTooMany$Flight;I)I"⟩
abbrev cX3_highestBid : ByteArray := prog_1_method_40_code
def yX3_highestBid : MethodName := ⟨RX3, "highestBid", "(I)I"⟩
abbrev cX3_firstOffer : ByteArray := prog_1_method_41_code
def yX3_firstOffer : MethodName := ⟨RX3, "firstOffer", "(III)I"⟩
abbrev cX3_leavablePeople : ByteArray := prog_1_method_42_code
def yX3_leavablePeople : MethodName := ⟨RX3, "leavablePeople", "(LTooMany$Flight;)I"⟩
abbrev cX3_nextToLeave : ByteArray := prog_1_method_43_code
def yX3_nextToLeave : MethodName := ⟨RX3, "nextToLeave", "(LTooMany$Flight;)LTooMany$Party;"⟩
abbrev cX3_isWay : ByteArray := prog_1_method_44_code
def yX3_isWay : MethodName := ⟨RX3, "isWay", "(LTooMany$Party;LTooMany$Flight;LTooMany$Flight;)Z"⟩
abbrev cX3_addStranded : ByteArray := prog_1_method_45_code
def yX3_addStranded : MethodName := ⟨RX3, "addStranded", "(I)V"⟩
abbrev cX3_addWays : ByteArray := prog_1_method_46_code
def yX3_addWays : MethodName := ⟨RX3, "addWays", "(LTooMany$Party;)V"⟩
def RX4 : String := "TooManyModel"
def TX4 : u_T := fun k => match k with
  | 0 => ("TooManyModel", "flight", "[I", true)
  | 1 => ("TooManyModel", "flights", "I", false)
  | 2 => ("TooManyModel", "party", "[I", true)
  | 3 => ("TooManyModel", "parties", "I", false)
  | 4 => ("TooManyModel", "numbers", "[I", true)
  | 5 => ("TooManyModel", "thrown", "I", false)
  | 6 => ("TooManyModel", "costs", "[I", true)
  | 7 => ("TooManyModel", "bits", "[I", true)
  | 8 => ("TooManyModel", "left", "[I", true)
  | 9 => ("TooManyModel", "leftMany", "I", false)
  | 10 => ("TooManyModel", "ways", "[I", true)
  | 11 => ("TooManyModel", "lates", "[I", true)
  | 12 => ("TooManyModel", "wayMany", "[I", true)
  | 13 => ("TooManyModel", "leastLate", "[I", true)
  | 14 => ("TooManyModel", "most", "[I", true)
  | 15 => ("TooManyModel", "loads", "[I", true)
  | 16 => ("TooManyModel", "tryWay", "[I", true)
  | 17 => ("TooManyModel", "bestWay", "[I", true)
  | 18 => ("TooManyModel", "bestPeople", "I", false)
  | _ => ("TooManyModel", "bestLate", "I", false)
def tyX4 : Nat → FieldType := fun k => match k with
  | 0 => .array .int
  | 1 => .int
  | 2 => .array .int
  | 3 => .int
  | 4 => .array .int
  | 5 => .int
  | 6 => .array .int
  | 7 => .array .int
  | 8 => .array .int
  | 9 => .int
  | 10 => .array .int
  | 11 => .array .int
  | 12 => .array .int
  | 13 => .array .int
  | 14 => .array .int
  | 15 => .array .int
  | 16 => .array .int
  | 17 => .array .int
  | 18 => .int
  | _ => .int
abbrev wsX40 : List Cond := u_ws RX4 TX4 20
theorem nmX4 : ∀ a, a < 20 → ∀ b, b < 20 → a ≠ b → (TX4 a).2.1 ≠ (TX4 b).2.1 := by decide +kernel
theorem tyX4_ok : ∀ k, k < 20 → parseFieldDescriptor (TX4 k).2.2.1 = some (tyX4 k) := by decide +kernel
abbrev cX4_init : ByteArray := prog_6_method_1_code
def yX4_init : MethodName := ⟨RX4, "<init>", "()V"⟩
abbrev cX4_thrown : ByteArray := prog_6_method_2_code
def yX4_thrown : MethodName := ⟨RX4, "thrown", "()I"⟩
abbrev cX4_in : ByteArray := prog_6_method_3_code
def yX4_in : MethodName := ⟨RX4, "in", "(III)Z"⟩
abbrev cX4_isFlight : ByteArray := prog_6_method_4_code
def yX4_isFlight : MethodName := ⟨RX4, "isFlight", "(I)Z"⟩
abbrev cX4_isParty : ByteArray := prog_6_method_5_code
def yX4_isParty : MethodName := ⟨RX4, "isParty", "(I)Z"⟩
abbrev cX4_get : ByteArray := prog_6_method_6_code
def yX4_get : MethodName := ⟨RX4, "get", "(II)I"⟩
abbrev cX4_put : ByteArray := prog_6_method_7_code
def yX4_put : MethodName := ⟨RX4, "put", "(III)V"⟩
abbrev cX4_of7 : ByteArray := prog_6_method_8_code
def yX4_of7 : MethodName := ⟨RX4, "of7", "(II)I"⟩
abbrev cX4_flight : ByteArray := prog_6_method_9_code
def yX4_flight : MethodName := ⟨RX4, "flight", "(IIIIII)I"⟩
abbrev cX4_off : ByteArray := prog_6_method_10_code
def yX4_off : MethodName := ⟨RX4, "off", "(IZ)Z"⟩
abbrev cX4_party : ByteArray := prog_6_method_11_code
def yX4_party : MethodName := ⟨RX4, "party", "(IIIIZ)I"⟩
abbrev cX4_set : ByteArray := prog_6_method_12_code
def yX4_set : MethodName := ⟨RX4, "set", "(II)I"⟩
abbrev cX4_load : ByteArray := prog_6_method_13_code
def yX4_load : MethodName := ⟨RX4, "load", "(I)I"⟩
abbrev cX4_over : ByteArray := prog_6_method_14_code
def yX4_over : MethodName := ⟨RX4, "over", "(I)I"⟩
abbrev cX4_told : ByteArray := prog_6_method_15_code
def yX4_told : MethodName := ⟨RX4, "told", "(II)I"⟩
abbrev cX4_lateBy : ByteArray := prog_6_method_16_code
def yX4_lateBy : MethodName := ⟨RX4, "lateBy", "(III)I"⟩
abbrev cX4_lateOf : ByteArray := prog_6_method_17_code
def yX4_lateOf : MethodName := ⟨RX4, "lateOf", "(I)I"⟩
abbrev cX4_claim : ByteArray := prog_6_method_18_code
def yX4_claim : MethodName := ⟨RX4, "claim", "(I)I"⟩
abbrev cX4_of : ByteArray := prog_6_method_19_code
def yX4_of : MethodName := ⟨RX4, "of", "(II)I"⟩
abbrev cX4_count : ByteArray := prog_6_method_20_code
def yX4_count : MethodName := ⟨RX4, "count", "(I)I"⟩
abbrev cX4_mayGive : ByteArray := prog_6_method_21_code
def yX4_mayGive : MethodName := ⟨RX4, "mayGive", "(II)Z"⟩
abbrev cX4_findBest : ByteArray := prog_6_method_22_code
def yX4_findBest : MethodName := ⟨RX4, "findBest", "(I)I"⟩
abbrev cX4_cost : ByteArray := prog_6_method_23_code
def yX4_cost : MethodName := ⟨RX4, "cost", "(I)I"⟩
abbrev cX4_give : ByteArray := prog_6_method_24_code
def yX4_give : MethodName := ⟨RX4, "give", "(II)V"⟩
abbrev cX4_buy : ByteArray := prog_6_method_25_code
def yX4_buy : MethodName := ⟨RX4, "buy", "(I)I"⟩
abbrev cX4_rounds : ByteArray := prog_6_method_26_code
def yX4_rounds : MethodName := ⟨RX4, "rounds", "(III)I"⟩
abbrev cX4_leave : ByteArray := prog_6_method_27_code
def yX4_leave : MethodName := ⟨RX4, "leave", "(I)I"⟩
abbrev cX4_back : ByteArray := prog_6_method_28_code
def yX4_back : MethodName := ⟨RX4, "back", "(I)Z"⟩
abbrev cX4_late : ByteArray := prog_6_method_29_code
def yX4_late : MethodName := ⟨RX4, "late", "(III)I"⟩
abbrev cX4_findWays : ByteArray := prog_6_method_30_code
def yX4_findWays : MethodName := ⟨RX4, "findWays", "(I)V"⟩
abbrev cX4_hasRoom : ByteArray := prog_6_method_31_code
def yX4_hasRoom : MethodName := ⟨RX4, "hasRoom", "(II)Z"⟩
abbrev cX4_goOn : ByteArray := prog_6_method_32_code
def yX4_goOn : MethodName := ⟨RX4, "goOn", "(III)V"⟩
abbrev cX4_strandedMany : ByteArray := prog_6_method_33_code
def yX4_strandedMany : MethodName := ⟨RX4, "strandedMany", "()I"⟩
abbrev cX4_stranded : ByteArray := prog_6_method_34_code
def yX4_stranded : MethodName := ⟨RX4, "stranded", "()I"⟩
abbrev cX4_move : ByteArray := prog_6_method_35_code
def yX4_move : MethodName := ⟨RX4, "move", "()I"⟩
abbrev cX4_undo : ByteArray := prog_6_method_36_code
def yX4_undo : MethodName := ⟨RX4, "undo", "()I"⟩
def RJ9 : String := "java/lang/Math"
def TJ9 : u_T := fun k => match k with
  | _ => ("", "", "", false)
def tyJ9 : Nat → FieldType := fun k => match k with
  | _ => .int
abbrev wsJ90 : List Cond := u_ws RJ9 TJ9 0
theorem nmJ9 : ∀ a, a < 0 → ∀ b, b < 0 → a ≠ b → (TJ9 a).2.1 ≠ (TJ9 b).2.1 := by decide +kernel
theorem tyJ9_ok : ∀ k, k < 0 → parseFieldDescriptor (TJ9 k).2.2.1 = some (tyJ9 k) := by decide +kernel
abbrev cJ9_max_7cf53 : ByteArray := prog_8_method_65_code
def yJ9_max_7cf53 : MethodName := ⟨RJ9, "max", "(II)I"⟩
abbrev cJ9_min_7cf53 : ByteArray := prog_8_method_69_code
def yJ9_min_7cf53 : MethodName := ⟨RJ9, "min", "(II)I"⟩
def RJ0 : String := "java/lang/String"
def TJ0 : u_T := fun k => match k with
  | _ => ("", "", "", false)
def tyJ0 : Nat → FieldType := fun k => match k with
  | _ => .int
abbrev wsJ00 : List Cond := u_ws RJ0 TJ0 0
theorem nmJ0 : ∀ a, a < 0 → ∀ b, b < 0 → a ≠ b → (TJ0 a).2.1 ≠ (TJ0 b).2.1 := by decide +kernel
theorem tyJ0_ok : ∀ k, k < 0 → parseFieldDescriptor (TJ0 k).2.2.1 = some (tyJ0 k) := by decide +kernel
def RL : String := "TooManyLaw"
abbrev cL_of : ByteArray := method_3_code
def yL_of : MethodName := ⟨RL, "of", "(LTooMany;II[J)I"⟩
abbrev cL_law : ByteArray := code
def yL_law : MethodName := ⟨RL, "law", "([I)Z"⟩
abbrev vwCl : List vw_C := [(RX0, TX0, 9), (RX1, TX1, 13), (RX2, TX2, 9), (RX3, TX3, 8), (RX4, TX4, 20)]
end
section
/-! THE WORLD: every cell that the law makes has a NAME (a number); a state is: the address of each name (ad), which names there are (dm), and what their slots hold: ints (a), longs (b), references as names (r). -/
def gd : List Cond := lw_tbl.filter goodWord
theorem gd_of {w : Cond} (h : w ∈ lw_tbl) (hg : goodWord w = true) : w ∈ gd := List.mem_filter.mpr ⟨h, hg⟩
theorem gd_1 {w : Cond} (i : Nat) (h : tables_1_1[i]? = some w) (hg : goodWord w = true) : w ∈ gd := gd_of (List.mem_append_right _ (List.mem_append_left _ (List.mem_of_getElem? h))) hg
theorem gd_2 {w : Cond} (i : Nat) (h : tables_1_2[i]? = some w) (hg : goodWord w = true) : w ∈ gd := gd_of (List.mem_append_right _ (List.mem_append_right _ (List.mem_append_left _ (List.mem_of_getElem? h)))) hg
theorem gd_3 {w : Cond} (i : Nat) (h : tables_1_3[i]? = some w) (hg : goodWord w = true) : w ∈ gd := gd_of (List.mem_append_right _ (List.mem_append_right _ (List.mem_append_right _ (List.mem_append_left _ (List.mem_of_getElem? h))))) hg
theorem gd_4 {w : Cond} (i : Nat) (h : tables_1_4[i]? = some w) (hg : goodWord w = true) : w ∈ gd := gd_of (List.mem_append_right _ (List.mem_append_right _ (List.mem_append_right _ (List.mem_append_right _ (List.mem_of_getElem? h))))) hg
theorem gd_s {w : Cond} (i : Nat) (h : (k2_sels lw_privs)[i]? = some w) (hg : goodWord w = true) : w ∈ gd := gd_of (List.mem_append_left _ (List.mem_of_getElem? h)) hg
theorem gd_good : ∀ w ∈ gd, (w.onTables && w.keeps) = true ∨ ∃ ty, w = .arrayClass ty := fun _ h => good_of_word (List.mem_filter.mp h).2
/-- kinds of slots: 0 int, 1 long, 2 a reference, n + 3 the reference to the name n, for ever -/
def kds : Nat → List Nat
  | 0 => [0, 0, 0, 0, 0, 0, 0, 0, 0]
  | 1 => [9, 10, 11, 12, 13, 14, 15, 16, 17, 18, 19, 1, 0]
  | 2 => [2, 0, 0, 0, 0, 0, 0, 2, 2]
  | 3 => [4, 5, 6, 7, 8, 0, 0, 0]
  | _ => [104, 0, 105, 0, 106, 0, 107, 108, 109, 0, 110, 111, 112, 113, 114, 115, 116, 117, 0, 0]
/-- of a name: an object of a class, or a row of a kind (0 int, 1 long, 2 flights, 3 parties) and a length -/
def lyX : List (Nat ⊕ Nat × Nat) := [.inl 3, .inr (2, 8), .inr (3, 20), .inr (0, 3), .inr (1, 121), .inl 1, .inr (3, 6), .inr (0, 6), .inr (0, 6), .inr (0, 6), .inr (0, 6), .inr (0, 6), .inr (0, 7), .inr (2, 72), .inr (2, 72), .inr (0, 72), .inr (1, 72)]
def lyM : List (Nat ⊕ Nat × Nat) := [.inl 4, .inr (0, 56), .inr (0, 180), .inr (0, 4), .inr (0, 121), .inr (0, 121), .inr (0, 6), .inr (0, 432), .inr (0, 432), .inr (0, 6), .inr (0, 6), .inr (0, 8), .inr (0, 8), .inr (0, 6), .inr (0, 6), .inr (0, 0), .inr (0, 0), .inr (0, 0), .inr (0, 7), .inr (0, 9)]
def ly (n : Nat) : Nat ⊕ Nat × Nat := if n < 20 then lyX.getD n (.inr (0, 0)) else if n < 30 then .inl 0 else if n < 100 then .inl 2 else if n < 120 then lyM.getD (n - 100) (.inr (0, 0)) else .inr (1, 1)
theorem ly_F {i : Nat} (h : i < 8) : ly (20 + i) = .inl 0 := by
  unfold ly
  rw [if_neg (by omega), if_pos (by omega)]
theorem ly_P {j : Nat} (h : j < 20) : ly (30 + j) = .inl 2 := by
  unfold ly
  rw [if_neg (by omega), if_neg (by omega), if_pos (by omega)]
abbrev GM : Type := va_G × ClassId × ClassId × ClassId × ClassId
def tysG (g : GM) : List (ClassId × FieldType) := [(g.2.1, .int), (g.2.2.1, .long), (g.2.2.2.1, .object RX0), (g.2.2.2.2, .object RX2)]
def vl (ad : Nat → Nat) (a : Nat → Int32) (b : Nat → Int64) (r : Nat → Option Nat) (k : Nat) : Nat → Value
  | 0 => .int (a k)
  | 1 => .long (b k)
  | 2 => va_rf ((r k).map ad)
  | n + 3 => .ref (ad n)
def vls (ad : Nat → Nat) (a : Nat → Int32) (b : Nat → Int64) (r : Nat → Option Nat) : Nat → List Nat → List Value
  | _, [] => []
  | k, t :: ts => vl ad a b r k t :: vls ad a b r (k + 1) ts
theorem vls_len {ad : Nat → Nat} {a : Nat → Int32} {b : Nat → Int64} {r : Nat → Option Nat} : ∀ (ts : List Nat) (k : Nat), (vls ad a b r k ts).length = ts.length
  | [], _ => rfl
  | t :: ts, k => by simp [vls, vls_len ts]
theorem vls_get {ad : Nat → Nat} {a : Nat → Int32} {b : Nat → Int64} {r : Nat → Option Nat} : ∀ (ts : List Nat) (k j t : Nat), ts[j]? = some t → (vls ad a b r k ts)[j]? = some (vl ad a b r (k + j) t)
  | [], _, j, t, h => by simp at h
  | t0 :: ts, k, 0, t, h => by
    simp at h
    subst h
    simp [vls]
  | t0 :: ts, k, j + 1, t, h => by
    simp at h
    have h1 := vls_get (ad := ad) (a := a) (b := b) (r := r) ts (k + 1) j t h
    simp only [vls, List.getElem?_cons_succ]
    rw [h1, show k + 1 + j = k + (j + 1) by omega]
/-- one slot written -/
theorem vls_set {ad : Nat → Nat} {a a' : Nat → Int32} {b b' : Nat → Int64} {r r' : Nat → Option Nat} {v : Value} (ts : List Nat) (k j t : Nat) (hj : ts[j]? = some t) (hv : vl ad a' b' r' (k + j) t = v) (ho : ∀ i u, i ≠ k + j → vl ad a b r i u = vl ad a' b' r' i u) : (vls ad a b r k ts).set j v = vls ad a' b' r' k ts := by
  apply List.ext_getElem?
  intro i
  by_cases hi : i = j
  · subst hi
    rw [List.getElem?_set_self (by rw [vls_len]; exact (List.getElem?_eq_some_iff.mp hj).1), vls_get ts k i t hj, hv]
  · rw [List.getElem?_set_ne (Ne.symm hi)]
    cases h : ts[i]? with
    | none =>
      have hl : ts.length ≤ i := List.getElem?_eq_none_iff.mp h
      rw [List.getElem?_eq_none (by rw [vls_len]; exact hl), List.getElem?_eq_none (by rw [vls_len]; exact hl)]
    | some u =>
      rw [vls_get ts k i u h, vls_get ts k i u h, ho (k + i) u (by omega)]
/-- the cell of a name -/
def ce (g : GM) (ad : Nat → Nat) (a : Nat → Nat → Int32) (b : Nat → Nat → Int64) (r : Nat → Nat → Option Nat) (n : Nat) : va_E := match ly n with
  | .inl ci => .inr (ci, vls ad (a n) (b n) (r n) 0 (kds ci))
  | .inr (0, len) => .inl (g.2.1, len, .inl (a n))
  | .inr (1, len) => .inl (g.2.2.1, len, .inr (.inl (b n)))
  | .inr (2, len) => .inl (g.2.2.2.1, len, .inr (.inr (.inr (.inr (fun k => (r n k).map ad)))))
  | .inr (_ + 3, len) => .inl (g.2.2.2.2, len, .inr (.inr (.inr (.inr (fun k => (r n k).map ad)))))
theorem ce_o {g : GM} {ad : Nat → Nat} {a : Nat → Nat → Int32} {b : Nat → Nat → Int64} {r : Nat → Nat → Option Nat} {n ci : Nat} (h : ly n = .inl ci) : ce g ad a b r n = .inr (ci, vls ad (a n) (b n) (r n) 0 (kds ci)) := by unfold ce; rw [h]
theorem ce_i {g : GM} {ad : Nat → Nat} {a : Nat → Nat → Int32} {b : Nat → Nat → Int64} {r : Nat → Nat → Option Nat} {n len : Nat} (h : ly n = .inr (0, len)) : ce g ad a b r n = .inl (g.2.1, len, .inl (a n)) := by unfold ce; rw [h]
theorem ce_l {g : GM} {ad : Nat → Nat} {a : Nat → Nat → Int32} {b : Nat → Nat → Int64} {r : Nat → Nat → Option Nat} {n len : Nat} (h : ly n = .inr (1, len)) : ce g ad a b r n = .inl (g.2.2.1, len, .inr (.inl (b n))) := by unfold ce; rw [h]
theorem ce_f {g : GM} {ad : Nat → Nat} {a : Nat → Nat → Int32} {b : Nat → Nat → Int64} {r : Nat → Nat → Option Nat} {n len : Nat} (h : ly n = .inr (2, len)) : ce g ad a b r n = .inl (g.2.2.2.1, len, .inr (.inr (.inr (.inr (fun k => (r n k).map ad))))) := by unfold ce; rw [h]
theorem ce_p {g : GM} {ad : Nat → Nat} {a : Nat → Nat → Int32} {b : Nat → Nat → Int64} {r : Nat → Nat → Option Nat} {n len : Nat} (h : ly n = .inr (3, len)) : ce g ad a b r n = .inl (g.2.2.2.2, len, .inr (.inr (.inr (.inr (fun k => (r n k).map ad))))) := by unfold ce; rw [h]
/-- a cell depends on its own name's slots alone -/
theorem ce_cong {g : GM} {ad : Nat → Nat} {a a' : Nat → Nat → Int32} {b b' : Nat → Nat → Int64} {r r' : Nat → Nat → Option Nat} {n : Nat} (h1 : a n = a' n) (h2 : b n = b' n) (h3 : r n = r' n) : ce g ad a b r n = ce g ad a' b' r' n := by
  unfold ce
  rw [h1, h2, h3]
def Wd (g : GM) (bs : Nat) (ad : Nat → Nat) (dm : Nat → Bool) (a : Nat → Nat → Int32) (b : Nat → Nat → Int64) (r : Nat → Nat → Option Nat) (H : Heap) : Prop :=
  bs ≤ H.size ∧ (∀ n, dm n = true → bs ≤ ad n ∧ va_at g.1 vwCl (ad n, ce g ad a b r n) H) ∧ ∀ n k, dm n = true → dm k = true → ad n = ad k → n = k
/-- one slot of one name -/
def u2 {α : Type} (f : Nat → Nat → α) (n k : Nat) (v : α) : Nat → Nat → α := fun i j => if i = n then (if j = k then v else f i j) else f i j
theorem u2_s {α : Type} {f : Nat → Nat → α} {n k : Nat} {v : α} : u2 f n k v n k = v := by simp [u2]
theorem u2_n {α : Type} {f : Nat → Nat → α} {n k i : Nat} {v : α} (h : i ≠ n) : u2 f n k v i = f i := by
  funext j
  simp [u2, h]
theorem u2_k {α : Type} {f : Nat → Nat → α} {n k j : Nat} {v : α} (h : j ≠ k) (i : Nat) : u2 f n k v i j = f i j := by
  simp [u2, h]
/-- the world behind a store into the cell of n -/
theorem Wd.st {g : GM} {bs : Nat} {ad : Nat → Nat} {dm : Nat → Bool} {a a' : Nat → Nat → Int32} {b b' : Nat → Nat → Int64} {r r' : Nat → Nat → Option Nat} {H H1 : Heap} {n : Nat} (h : Wd g bs ad dm a b r H) (hn : dm n = true) (hz : H1.size = H.size) (ho : ∀ q, q ≠ ad n → H1[q]? = H[q]?) (hc : va_at g.1 vwCl (ad n, ce g ad a' b' r' n) H1) (hs : ∀ i, i ≠ n → a i = a' i ∧ b i = b' i ∧ r i = r' i) : Wd g bs ad dm a' b' r' H1 := by
  refine ⟨by rw [hz]; exact h.1, fun i hi => ⟨(h.2.1 i hi).1, ?_⟩, h.2.2⟩
  by_cases e : i = n
  · subst e
    exact hc
  · obtain ⟨h1, h2, h3⟩ := hs i e
    rw [← ce_cong h1 h2 h3]
    exact (h.2.1 i hi).2.kept (ho _ (fun z => e (h.2.2 i n hi hn z)))
end
section
/-! THE JUDGEMENT: G E cl sl ad dm a b r pc lo st: the machine, at pc with locals lo and stack st, the world as ad dm a b r say, comes to a state with E's Q. E: the machine, the method's frame, its end. -/
abbrev EX : Type := Program × Launch × Env × Room × State × MethodId × Array Value × List Frame × Method × Code
abbrev EN : Type := GM × Nat × EX × Nat × (State → Prop)
abbrev eG (E : EN) : GM := E.1
abbrev eB (E : EN) : Nat := E.2.1
abbrev eL (E : EN) : Launch := E.2.2.1.2.1
abbrev eR (E : EN) : Room := E.2.2.1.2.2.2.1
abbrev eS (E : EN) : State := E.2.2.1.2.2.2.2.1
abbrev eM (E : EN) : MethodId := E.2.2.1.2.2.2.2.2.1
abbrev eA (E : EN) : Array Value := E.2.2.1.2.2.2.2.2.2.1
abbrev eW (E : EN) : List Frame := E.2.2.1.2.2.2.2.2.2.2.1
abbrev eH (E : EN) : Method := E.2.2.1.2.2.2.2.2.2.2.2.1
abbrev eC (E : EN) : Code := E.2.2.1.2.2.2.2.2.2.2.2.2
abbrev eN (E : EN) : Nat := E.2.2.2.1
abbrev eQ (E : EN) : State → Prop := E.2.2.2.2
abbrev WW (E : EN) (H : Heap) (locs : List Loc) (cl sl : Nat) (f : JFrame) : Prop := W E.2.2.1.1 (eL E) E.2.2.1.2.2.1 (eR E) (eS E) (eM E) (eA E) (eW E) (eH E) (eC E) H locs cl sl (eQ E) f
def las : Nat → List (Option Value) → List (Nat × Value)
  | _, [] => []
  | k, none :: t => las (k + 1) t
  | k, some v :: t => (k, v) :: las (k + 1) t
theorem las_mem : ∀ (lo : List (Option Value)) (k i : Nat) (v : Value), lo[i]? = some (some v) → (k + i, v) ∈ las k lo
  | [], _, i, v, h => by simp at h
  | none :: t, k, 0, v, h => by simp at h
  | some w :: t, k, 0, v, h => by
    simp at h
    subst h
    simp [las]
  | none :: t, k, i + 1, v, h => by
    have h1 := las_mem t (k + 1) i v (by simpa using h)
    rw [show k + 1 + i = k + (i + 1) by omega] at h1
    exact h1
  | some w :: t, k, i + 1, v, h => by
    have h1 := las_mem t (k + 1) i v (by simpa using h)
    rw [show k + 1 + i = k + (i + 1) by omega] at h1
    exact List.mem_cons_of_mem _ h1
theorem las_in : ∀ (lo : List (Option Value)) (k : Nat) (q : Nat × Value), q ∈ las k lo → ∃ i, q.1 = k + i ∧ lo[i]? = some (some q.2)
  | [], _, q, h => by simp [las] at h
  | none :: t, k, q, h => by
    obtain ⟨i, h1, h2⟩ := las_in t (k + 1) q h
    exact ⟨i + 1, by omega, by simpa using h2⟩
  | some w :: t, k, q, h => by
    rcases List.mem_cons.mp h with h | h
    · subst h
      exact ⟨0, rfl, rfl⟩
    · obtain ⟨i, h1, h2⟩ := las_in t (k + 1) q h
      exact ⟨i + 1, by omega, by simpa using h2⟩
def lh (ls : Array Slot) (nL : Nat) (lo : List (Option Value)) : Prop := lv_has ls nL (las 0 lo)
theorem lh_at {ls : Array Slot} {nL : Nat} {lo : List (Option Value)} {i : Nat} {v : Value} (h : lh ls nL lo) (hi : lo[i]? = some (some v)) : ls[i]? = some (.val v) := by
  have h1 := h.2.2 _ (las_mem lo 0 i v hi)
  rwa [Nat.zero_add] at h1
def G (E : EN) (cl sl : Nat) (ad : Nat → Nat) (dm : Nat → Bool) (a : Nat → Nat → Int32) (b : Nat → Nat → Int64) (r : Nat → Nat → Option Nat) (pc : Nat) (lo : List (Option Value)) (st : List Value) : Prop :=
  ∀ (H : Heap) (locs : List Loc) (ls : Array Slot), Wd (eG E) (eB E) ad dm a b r H → va_S (fun q => eB E ≤ q) (eS E).heap H locs → lh ls (eN E) lo → WW E H locs cl sl (F0 (eM E) pc ls st)
/-- the machine, the code, the tables, the room: lev calls deep -/
def CX (E : EN) (cc : ByteArray) (own : String) (lev : Nat) : Prop :=
  E.2.2.1.1.tables.exec = Jvm.exec ∧ (eC E).code = cc ∧ (eC E).maxLocals = eN E ∧ (eS E).vm.findClass own = some (eM E).cls ∧ (∀ w ∈ gd, w.before (eA E) (eS E) = true) ∧ va_K (eG E).1 vwCl (tysG (eG E)) (eS E) ∧ lev ≤ (eR E).frames ∧ 40 * lev ≤ (eR E).locals
section GR
variable {E : EN} {cc : ByteArray} {own : String} {lev cl sl : Nat} {ad : Nat → Nat} {dm : Nat → Bool} {a : Nat → Nat → Int32} {b : Nat → Nat → Int64} {r : Nat → Nat → Option Nat} {pc q : Nat} {lo : List (Option Value)} {rest : List Value}
theorem g_topi {x : Int32} (k : ∀ y : Int32, y = x → G E cl sl ad dm a b r pc lo (.int y :: rest)) : G E cl sl ad dm a b r pc lo (.int x :: rest) := k x rfl
theorem g_topl {x : Int64} (k : ∀ y : Int64, y = x → G E cl sl ad dm a b r pc lo (.long y :: rest)) : G E cl sl ad dm a b r pc lo (.long x :: rest) := k x rfl
theorem g_wide {cl' sl' : Nat} {st : List Value} (h1 : cl ≤ cl') (h2 : sl ≤ sl') (k : G E cl' sl' ad dm a b r pc lo st) : G E cl sl ad dm a b r pc lo st := fun H L ls hW hS hl => W.widen h1 h2 (k H L ls hW hS hl)
theorem g_eqi {x y : Int32} (e : x = y) (k : G E cl sl ad dm a b r pc lo (.int y :: rest)) : G E cl sl ad dm a b r pc lo (.int x :: rest) := e ▸ k
theorem g_lo {lo' : List (Option Value)} {st : List Value} (e : ∀ (i : Nat) (v : Value), lo'[i]? = some (some v) → lo[i]? = some (some v)) (k : G E cl sl ad dm a b r pc lo' st) : G E cl sl ad dm a b r pc lo st := fun H L ls hW hS hl => k H L ls hW hS ⟨hl.1, hl.2.1, fun z hz => by
  obtain ⟨i, h1, h2⟩ := las_in lo' 0 z hz
  have h3 := lh_at hl (e i z.2 h2)
  rw [show z.1 = i by omega]
  exact h3⟩

theorem g_iconst {n : Int} {v : Int32} (C : CX E cc own lev) (d : decode cc pc = .ok (.iconst n, 1)) (hq : pc + 1 = q) (hv : Int32.ofInt n = v) (k : G E cl sl ad dm a b r q lo (.int v :: rest)) : G E cl sl ad dm a b r pc lo (rest) := fun H L ls hW hS hl => lv_iconst C.1 C.2.1 d hv (by subst hq; exact k H L ls hW hS hl)
theorem g_bipush {n : Int} {v : Int32} (C : CX E cc own lev) (d : decode cc pc = .ok (.bipush n, 2)) (hq : pc + 2 = q) (hv : (Int8.ofInt n).toInt32 = v) (k : G E cl sl ad dm a b r q lo (.int v :: rest)) : G E cl sl ad dm a b r pc lo (rest) := fun H L ls hW hS hl => lv_bipush C.1 C.2.1 d hv (by subst hq; exact k H L ls hW hS hl)
theorem g_sipush {n : Int} {v : Int32} (C : CX E cc own lev) (d : decode cc pc = .ok (.sipush n, 3)) (hq : pc + 3 = q) (hv : (Int16.ofInt n).toInt32 = v) (k : G E cl sl ad dm a b r q lo (.int v :: rest)) : G E cl sl ad dm a b r pc lo (rest) := fun H L ls hW hS hl => lv_sipush C.1 C.2.1 d hv (by subst hq; exact k H L ls hW hS hl)
theorem g_lconst {n : Fin 2} {v : Int64} (C : CX E cc own lev) (d : decode cc pc = .ok (.lconst n, 1)) (hq : pc + 1 = q) (hv : Int64.ofNat (n : Nat) = v) (k : G E cl sl ad dm a b r q lo (.long v :: rest)) : G E cl sl ad dm a b r pc lo (rest) := fun H L ls hW hS hl => lv_lconst C.1 C.2.1 d hv (by subst hq; exact k H L ls hW hS hl)
theorem g_null (C : CX E cc own lev) (d : decode cc pc = .ok (.aconst_null, 1)) (hq : pc + 1 = q) (k : G E cl sl ad dm a b r q lo (.null :: rest)) : G E cl sl ad dm a b r pc lo (rest) := fun H L ls hW hS hl => lv_null C.1 C.2.1 d (by subst hq; exact k H L ls hW hS hl)
theorem g_ldc {i : Nat} {v : Int32} (C : CX E cc own lev) (d : decode cc pc = .ok (.ldc i, 2)) (hq : pc + 2 = q) (hg : Cond.constant own i v ∈ gd) (k : G E cl sl ad dm a b r q lo (.int v :: rest)) : G E cl sl ad dm a b r pc lo (rest) := fun H L ls hW hS hl => lv_ldc C.1 C.2.1 C.2.2.2.1 (C.2.2.2.2.1 _ hg) d (by subst hq; exact k H L ls hW hS hl)
theorem g_ldc2 {i : Nat} {v : Int64} (C : CX E cc own lev) (d : decode cc pc = .ok (.ldc2_w i, 3)) (hq : pc + 3 = q) (hg : Cond.constantLong own i v ∈ gd) (k : G E cl sl ad dm a b r q lo (.long v :: rest)) : G E cl sl ad dm a b r pc lo (rest) := fun H L ls hW hS hl => lv_ldc2 C.1 C.2.1 C.2.2.2.1 (C.2.2.2.2.1 _ hg) d (by subst hq; exact k H L ls hW hS hl)
theorem g_iadd {x y : Int32} (C : CX E cc own lev) (d : decode cc pc = .ok (.iadd, 1)) (hq : pc + 1 = q) (k : G E cl sl ad dm a b r q lo (.int (x + y) :: rest)) : G E cl sl ad dm a b r pc lo (.int y :: .int x :: rest) := fun H L ls hW hS hl => lv_iadd C.1 C.2.1 d (by subst hq; exact k H L ls hW hS hl)
theorem g_isub {x y : Int32} (C : CX E cc own lev) (d : decode cc pc = .ok (.isub, 1)) (hq : pc + 1 = q) (k : G E cl sl ad dm a b r q lo (.int (x - y) :: rest)) : G E cl sl ad dm a b r pc lo (.int y :: .int x :: rest) := fun H L ls hW hS hl => lv_isub C.1 C.2.1 d (by subst hq; exact k H L ls hW hS hl)
theorem g_imul {x y : Int32} (C : CX E cc own lev) (d : decode cc pc = .ok (.imul, 1)) (hq : pc + 1 = q) (k : G E cl sl ad dm a b r q lo (.int (x * y) :: rest)) : G E cl sl ad dm a b r pc lo (.int y :: .int x :: rest) := fun H L ls hW hS hl => lv_imul C.1 C.2.1 d (by subst hq; exact k H L ls hW hS hl)
theorem g_iand {x y : Int32} (C : CX E cc own lev) (d : decode cc pc = .ok (.iand, 1)) (hq : pc + 1 = q) (k : G E cl sl ad dm a b r q lo (.int (x &&& y) :: rest)) : G E cl sl ad dm a b r pc lo (.int y :: .int x :: rest) := fun H L ls hW hS hl => lv_iand C.1 C.2.1 d (by subst hq; exact k H L ls hW hS hl)
theorem g_ior {x y : Int32} (C : CX E cc own lev) (d : decode cc pc = .ok (.ior, 1)) (hq : pc + 1 = q) (k : G E cl sl ad dm a b r q lo (.int (x ||| y) :: rest)) : G E cl sl ad dm a b r pc lo (.int y :: .int x :: rest) := fun H L ls hW hS hl => lv_ior C.1 C.2.1 d (by subst hq; exact k H L ls hW hS hl)
theorem g_idiv {x y : Int32} (C : CX E cc own lev) (d : decode cc pc = .ok (.idiv, 1)) (hq : pc + 1 = q) (hn : ¬ y = 0) (k : G E cl sl ad dm a b r q lo (.int (x / y) :: rest)) : G E cl sl ad dm a b r pc lo (.int y :: .int x :: rest) := fun H L ls hW hS hl => lv_idiv C.1 C.2.1 d hn (by subst hq; exact k H L ls hW hS hl)
theorem g_irem {x y : Int32} (C : CX E cc own lev) (d : decode cc pc = .ok (.irem, 1)) (hq : pc + 1 = q) (hn : ¬ y = 0) (k : G E cl sl ad dm a b r q lo (.int (x - x / y * y) :: rest)) : G E cl sl ad dm a b r pc lo (.int y :: .int x :: rest) := fun H L ls hW hS hl => lv_irem C.1 C.2.1 d hn (by subst hq; exact k H L ls hW hS hl)
theorem g_ineg {x : Int32} (C : CX E cc own lev) (d : decode cc pc = .ok (.ineg, 1)) (hq : pc + 1 = q) (k : G E cl sl ad dm a b r q lo (.int (-x) :: rest)) : G E cl sl ad dm a b r pc lo (.int x :: rest) := fun H L ls hW hS hl => lv_ineg C.1 C.2.1 d (by subst hq; exact k H L ls hW hS hl)
theorem g_ladd {x y : Int64} (C : CX E cc own lev) (d : decode cc pc = .ok (.ladd, 1)) (hq : pc + 1 = q) (k : G E cl sl ad dm a b r q lo (.long (x + y) :: rest)) : G E cl sl ad dm a b r pc lo (.long y :: .long x :: rest) := fun H L ls hW hS hl => lv_ladd C.1 C.2.1 d (by subst hq; exact k H L ls hW hS hl)
theorem g_lsub {x y : Int64} (C : CX E cc own lev) (d : decode cc pc = .ok (.lsub, 1)) (hq : pc + 1 = q) (k : G E cl sl ad dm a b r q lo (.long (x - y) :: rest)) : G E cl sl ad dm a b r pc lo (.long y :: .long x :: rest) := fun H L ls hW hS hl => lv_lsub C.1 C.2.1 d (by subst hq; exact k H L ls hW hS hl)
theorem g_lmul {x y : Int64} (C : CX E cc own lev) (d : decode cc pc = .ok (.lmul, 1)) (hq : pc + 1 = q) (k : G E cl sl ad dm a b r q lo (.long (x * y) :: rest)) : G E cl sl ad dm a b r pc lo (.long y :: .long x :: rest) := fun H L ls hW hS hl => lv_lmul C.1 C.2.1 d (by subst hq; exact k H L ls hW hS hl)
theorem g_land {x y : Int64} (C : CX E cc own lev) (d : decode cc pc = .ok (.land, 1)) (hq : pc + 1 = q) (k : G E cl sl ad dm a b r q lo (.long (x &&& y) :: rest)) : G E cl sl ad dm a b r pc lo (.long y :: .long x :: rest) := fun H L ls hW hS hl => lv_land C.1 C.2.1 d (by subst hq; exact k H L ls hW hS hl)
theorem g_dup {v : Value} (C : CX E cc own lev) (d : decode cc pc = .ok (.dup, 1)) (hq : pc + 1 = q) (hv : v.category = 1) (k : G E cl sl ad dm a b r q lo (v :: v :: rest)) : G E cl sl ad dm a b r pc lo (v :: rest) := fun H L ls hW hS hl => lv_dup C.1 C.2.1 d hv (by subst hq; exact k H L ls hW hS hl)
theorem g_pop {v : Value} (C : CX E cc own lev) (d : decode cc pc = .ok (.pop, 1)) (hq : pc + 1 = q) (hv : v.category = 1) (k : G E cl sl ad dm a b r q lo (rest)) : G E cl sl ad dm a b r pc lo (v :: rest) := fun H L ls hW hS hl => lv_pop C.1 C.2.1 d hv (by subst hq; exact k H L ls hW hS hl)
theorem g_dup2 {v w : Value} (C : CX E cc own lev) (d : decode cc pc = .ok (.dup2, 1)) (hq : pc + 1 = q) (hv : v.category = 1) (hw : w.category = 1) (k : G E cl sl ad dm a b r q lo (v :: w :: v :: w :: rest)) : G E cl sl ad dm a b r pc lo (v :: w :: rest) := fun H L ls hW hS hl => lv_dup2_11 C.1 C.2.1 d hv hw (by subst hq; exact k H L ls hW hS hl)
theorem g_i2l {x : Int32} (C : CX E cc own lev) (d : decode cc pc = .ok (.i2l, 1)) (hq : pc + 1 = q) (k : G E cl sl ad dm a b r q lo (.long x.toInt64 :: rest)) : G E cl sl ad dm a b r pc lo (.int x :: rest) := fun H L ls hW hS hl => lv_i2l C.1 C.2.1 d rfl (by subst hq; exact k H L ls hW hS hl)
theorem g_l2i {x : Int64} (C : CX E cc own lev) (d : decode cc pc = .ok (.l2i, 1)) (hq : pc + 1 = q) (k : G E cl sl ad dm a b r q lo (.int x.toInt32 :: rest)) : G E cl sl ad dm a b r pc lo (.long x :: rest) := fun H L ls hW hS hl => lv_l2i C.1 C.2.1 d rfl (by subst hq; exact k H L ls hW hS hl)
theorem g_lcmp {x y : Int64} (C : CX E cc own lev) (d : decode cc pc = .ok (.lcmp, 1)) (hq : pc + 1 = q) (k : G E cl sl ad dm a b r q lo (.int (lg_cmp x y) :: rest)) : G E cl sl ad dm a b r pc lo (.long y :: .long x :: rest) := fun H L ls hW hS hl => W.lcmp C.1 C.2.1 d (by subst hq; exact k H L ls hW hS hl)
theorem g_ishl {x y : Int32} (C : CX E cc own lev) (d : decode cc pc = .ok (.ishl, 1)) (hq : pc + 1 = q) (k : G E cl sl ad dm a b r q lo (.int (x <<< (y &&& 31)) :: rest)) : G E cl sl ad dm a b r pc lo (.int y :: .int x :: rest) := fun H L ls hW hS hl => lv_ishl C.1 C.2.1 d (by subst hq; exact k H L ls hW hS hl)
theorem g_ishr {x y : Int32} (C : CX E cc own lev) (d : decode cc pc = .ok (.ishr, 1)) (hq : pc + 1 = q) (k : G E cl sl ad dm a b r q lo (.int (x >>> (y &&& 31)) :: rest)) : G E cl sl ad dm a b r pc lo (.int y :: .int x :: rest) := fun H L ls hW hS hl => lv_ishr C.1 C.2.1 d (by subst hq; exact k H L ls hW hS hl)
theorem g_lshl {x : Int64} {y : Int32} (C : CX E cc own lev) (d : decode cc pc = .ok (.lshl, 1)) (hq : pc + 1 = q) (k : G E cl sl ad dm a b r q lo (.long (x <<< (y.toInt64 &&& 63)) :: rest)) : G E cl sl ad dm a b r pc lo (.int y :: .long x :: rest) := fun H L ls hW hS hl => lv_lshl C.1 C.2.1 d rfl (by subst hq; exact k H L ls hW hS hl)
theorem g_lshr {x : Int64} {y : Int32} (C : CX E cc own lev) (d : decode cc pc = .ok (.lshr, 1)) (hq : pc + 1 = q) (k : G E cl sl ad dm a b r q lo (.long (x >>> (y.toInt64 &&& 63)) :: rest)) : G E cl sl ad dm a b r pc lo (.int y :: .long x :: rest) := fun H L ls hW hS hl => lv_lshr C.1 C.2.1 d rfl (by subst hq; exact k H L ls hW hS hl)
theorem g_iload_0 {x : Int32} {t : List (Option Value)} (C : CX E cc own lev) (d : decode cc pc = .ok (.iload_n 0, 1)) (hq : pc + 1 = q) (k : G E cl sl ad dm a b r q (some (.int x) :: t) (.int x :: rest)) : G E cl sl ad dm a b r pc (some (.int x) :: t) rest := fun H L ls hW hS hl => lv_iload_n C.1 C.2.1 d rfl (lh_at hl (i := 0) rfl) (by subst hq; exact k H L ls hW hS hl)
theorem g_lload_0 {x : Int64} {t : List (Option Value)} (C : CX E cc own lev) (d : decode cc pc = .ok (.lload_n 0, 1)) (hq : pc + 1 = q) (k : G E cl sl ad dm a b r q (some (.long x) :: t) (.long x :: rest)) : G E cl sl ad dm a b r pc (some (.long x) :: t) rest := fun H L ls hW hS hl => lv_lload_n C.1 C.2.1 d rfl (lh_at hl (i := 0) rfl) (by subst hq; exact k H L ls hW hS hl)
theorem g_aload_0 {x : Nat} {t : List (Option Value)} (C : CX E cc own lev) (d : decode cc pc = .ok (.aload_n 0, 1)) (hq : pc + 1 = q) (k : G E cl sl ad dm a b r q (some (.ref x) :: t) (.ref x :: rest)) : G E cl sl ad dm a b r pc (some (.ref x) :: t) rest := fun H L ls hW hS hl => lv_aload_n C.1 C.2.1 d rfl (lh_at hl (i := 0) rfl) (by subst hq; exact k H L ls hW hS hl)
theorem g_aload_0N {t : List (Option Value)} (C : CX E cc own lev) (d : decode cc pc = .ok (.aload_n 0, 1)) (hq : pc + 1 = q) (k : G E cl sl ad dm a b r q (some .null :: t) (.null :: rest)) : G E cl sl ad dm a b r pc (some .null :: t) rest := fun H L ls hW hS hl => lv_aload_nN C.1 C.2.1 d rfl (lh_at hl (i := 0) rfl) (by subst hq; exact k H L ls hW hS hl)
theorem g_iload_1 {e0 : Option Value} {x : Int32} {t : List (Option Value)} (C : CX E cc own lev) (d : decode cc pc = .ok (.iload_n 1, 1)) (hq : pc + 1 = q) (k : G E cl sl ad dm a b r q (e0 :: some (.int x) :: t) (.int x :: rest)) : G E cl sl ad dm a b r pc (e0 :: some (.int x) :: t) rest := fun H L ls hW hS hl => lv_iload_n C.1 C.2.1 d rfl (lh_at hl (i := 1) rfl) (by subst hq; exact k H L ls hW hS hl)
theorem g_lload_1 {e0 : Option Value} {x : Int64} {t : List (Option Value)} (C : CX E cc own lev) (d : decode cc pc = .ok (.lload_n 1, 1)) (hq : pc + 1 = q) (k : G E cl sl ad dm a b r q (e0 :: some (.long x) :: t) (.long x :: rest)) : G E cl sl ad dm a b r pc (e0 :: some (.long x) :: t) rest := fun H L ls hW hS hl => lv_lload_n C.1 C.2.1 d rfl (lh_at hl (i := 1) rfl) (by subst hq; exact k H L ls hW hS hl)
theorem g_aload_1 {e0 : Option Value} {x : Nat} {t : List (Option Value)} (C : CX E cc own lev) (d : decode cc pc = .ok (.aload_n 1, 1)) (hq : pc + 1 = q) (k : G E cl sl ad dm a b r q (e0 :: some (.ref x) :: t) (.ref x :: rest)) : G E cl sl ad dm a b r pc (e0 :: some (.ref x) :: t) rest := fun H L ls hW hS hl => lv_aload_n C.1 C.2.1 d rfl (lh_at hl (i := 1) rfl) (by subst hq; exact k H L ls hW hS hl)
theorem g_aload_1N {e0 : Option Value} {t : List (Option Value)} (C : CX E cc own lev) (d : decode cc pc = .ok (.aload_n 1, 1)) (hq : pc + 1 = q) (k : G E cl sl ad dm a b r q (e0 :: some .null :: t) (.null :: rest)) : G E cl sl ad dm a b r pc (e0 :: some .null :: t) rest := fun H L ls hW hS hl => lv_aload_nN C.1 C.2.1 d rfl (lh_at hl (i := 1) rfl) (by subst hq; exact k H L ls hW hS hl)
theorem g_iload_2 {e0 e1 : Option Value} {x : Int32} {t : List (Option Value)} (C : CX E cc own lev) (d : decode cc pc = .ok (.iload_n 2, 1)) (hq : pc + 1 = q) (k : G E cl sl ad dm a b r q (e0 :: e1 :: some (.int x) :: t) (.int x :: rest)) : G E cl sl ad dm a b r pc (e0 :: e1 :: some (.int x) :: t) rest := fun H L ls hW hS hl => lv_iload_n C.1 C.2.1 d rfl (lh_at hl (i := 2) rfl) (by subst hq; exact k H L ls hW hS hl)
theorem g_lload_2 {e0 e1 : Option Value} {x : Int64} {t : List (Option Value)} (C : CX E cc own lev) (d : decode cc pc = .ok (.lload_n 2, 1)) (hq : pc + 1 = q) (k : G E cl sl ad dm a b r q (e0 :: e1 :: some (.long x) :: t) (.long x :: rest)) : G E cl sl ad dm a b r pc (e0 :: e1 :: some (.long x) :: t) rest := fun H L ls hW hS hl => lv_lload_n C.1 C.2.1 d rfl (lh_at hl (i := 2) rfl) (by subst hq; exact k H L ls hW hS hl)
theorem g_aload_2 {e0 e1 : Option Value} {x : Nat} {t : List (Option Value)} (C : CX E cc own lev) (d : decode cc pc = .ok (.aload_n 2, 1)) (hq : pc + 1 = q) (k : G E cl sl ad dm a b r q (e0 :: e1 :: some (.ref x) :: t) (.ref x :: rest)) : G E cl sl ad dm a b r pc (e0 :: e1 :: some (.ref x) :: t) rest := fun H L ls hW hS hl => lv_aload_n C.1 C.2.1 d rfl (lh_at hl (i := 2) rfl) (by subst hq; exact k H L ls hW hS hl)
theorem g_aload_2N {e0 e1 : Option Value} {t : List (Option Value)} (C : CX E cc own lev) (d : decode cc pc = .ok (.aload_n 2, 1)) (hq : pc + 1 = q) (k : G E cl sl ad dm a b r q (e0 :: e1 :: some .null :: t) (.null :: rest)) : G E cl sl ad dm a b r pc (e0 :: e1 :: some .null :: t) rest := fun H L ls hW hS hl => lv_aload_nN C.1 C.2.1 d rfl (lh_at hl (i := 2) rfl) (by subst hq; exact k H L ls hW hS hl)
theorem g_iload_3 {e0 e1 e2 : Option Value} {x : Int32} {t : List (Option Value)} (C : CX E cc own lev) (d : decode cc pc = .ok (.iload_n 3, 1)) (hq : pc + 1 = q) (k : G E cl sl ad dm a b r q (e0 :: e1 :: e2 :: some (.int x) :: t) (.int x :: rest)) : G E cl sl ad dm a b r pc (e0 :: e1 :: e2 :: some (.int x) :: t) rest := fun H L ls hW hS hl => lv_iload_n C.1 C.2.1 d rfl (lh_at hl (i := 3) rfl) (by subst hq; exact k H L ls hW hS hl)
theorem g_lload_3 {e0 e1 e2 : Option Value} {x : Int64} {t : List (Option Value)} (C : CX E cc own lev) (d : decode cc pc = .ok (.lload_n 3, 1)) (hq : pc + 1 = q) (k : G E cl sl ad dm a b r q (e0 :: e1 :: e2 :: some (.long x) :: t) (.long x :: rest)) : G E cl sl ad dm a b r pc (e0 :: e1 :: e2 :: some (.long x) :: t) rest := fun H L ls hW hS hl => lv_lload_n C.1 C.2.1 d rfl (lh_at hl (i := 3) rfl) (by subst hq; exact k H L ls hW hS hl)
theorem g_aload_3 {e0 e1 e2 : Option Value} {x : Nat} {t : List (Option Value)} (C : CX E cc own lev) (d : decode cc pc = .ok (.aload_n 3, 1)) (hq : pc + 1 = q) (k : G E cl sl ad dm a b r q (e0 :: e1 :: e2 :: some (.ref x) :: t) (.ref x :: rest)) : G E cl sl ad dm a b r pc (e0 :: e1 :: e2 :: some (.ref x) :: t) rest := fun H L ls hW hS hl => lv_aload_n C.1 C.2.1 d rfl (lh_at hl (i := 3) rfl) (by subst hq; exact k H L ls hW hS hl)
theorem g_aload_3N {e0 e1 e2 : Option Value} {t : List (Option Value)} (C : CX E cc own lev) (d : decode cc pc = .ok (.aload_n 3, 1)) (hq : pc + 1 = q) (k : G E cl sl ad dm a b r q (e0 :: e1 :: e2 :: some .null :: t) (.null :: rest)) : G E cl sl ad dm a b r pc (e0 :: e1 :: e2 :: some .null :: t) rest := fun H L ls hW hS hl => lv_aload_nN C.1 C.2.1 d rfl (lh_at hl (i := 3) rfl) (by subst hq; exact k H L ls hW hS hl)
theorem g_iload_4 {e0 e1 e2 e3 : Option Value} {x : Int32} {t : List (Option Value)} (C : CX E cc own lev) (d : decode cc pc = .ok (.iload 4, 2)) (hq : pc + 2 = q) (k : G E cl sl ad dm a b r q (e0 :: e1 :: e2 :: e3 :: some (.int x) :: t) (.int x :: rest)) : G E cl sl ad dm a b r pc (e0 :: e1 :: e2 :: e3 :: some (.int x) :: t) rest := fun H L ls hW hS hl => lv_iload C.1 C.2.1 d (lh_at hl (i := 4) rfl) (by subst hq; exact k H L ls hW hS hl)
theorem g_lload_4 {e0 e1 e2 e3 : Option Value} {x : Int64} {t : List (Option Value)} (C : CX E cc own lev) (d : decode cc pc = .ok (.lload 4, 2)) (hq : pc + 2 = q) (k : G E cl sl ad dm a b r q (e0 :: e1 :: e2 :: e3 :: some (.long x) :: t) (.long x :: rest)) : G E cl sl ad dm a b r pc (e0 :: e1 :: e2 :: e3 :: some (.long x) :: t) rest := fun H L ls hW hS hl => lv_lload C.1 C.2.1 d (lh_at hl (i := 4) rfl) (by subst hq; exact k H L ls hW hS hl)
theorem g_aload_4 {e0 e1 e2 e3 : Option Value} {x : Nat} {t : List (Option Value)} (C : CX E cc own lev) (d : decode cc pc = .ok (.aload 4, 2)) (hq : pc + 2 = q) (k : G E cl sl ad dm a b r q (e0 :: e1 :: e2 :: e3 :: some (.ref x) :: t) (.ref x :: rest)) : G E cl sl ad dm a b r pc (e0 :: e1 :: e2 :: e3 :: some (.ref x) :: t) rest := fun H L ls hW hS hl => lv_aload C.1 C.2.1 d (lh_at hl (i := 4) rfl) (by subst hq; exact k H L ls hW hS hl)
theorem g_aload_4N {e0 e1 e2 e3 : Option Value} {t : List (Option Value)} (C : CX E cc own lev) (d : decode cc pc = .ok (.aload 4, 2)) (hq : pc + 2 = q) (k : G E cl sl ad dm a b r q (e0 :: e1 :: e2 :: e3 :: some .null :: t) (.null :: rest)) : G E cl sl ad dm a b r pc (e0 :: e1 :: e2 :: e3 :: some .null :: t) rest := fun H L ls hW hS hl => lv_aloadN C.1 C.2.1 d (lh_at hl (i := 4) rfl) (by subst hq; exact k H L ls hW hS hl)
theorem g_iload_5 {e0 e1 e2 e3 e4 : Option Value} {x : Int32} {t : List (Option Value)} (C : CX E cc own lev) (d : decode cc pc = .ok (.iload 5, 2)) (hq : pc + 2 = q) (k : G E cl sl ad dm a b r q (e0 :: e1 :: e2 :: e3 :: e4 :: some (.int x) :: t) (.int x :: rest)) : G E cl sl ad dm a b r pc (e0 :: e1 :: e2 :: e3 :: e4 :: some (.int x) :: t) rest := fun H L ls hW hS hl => lv_iload C.1 C.2.1 d (lh_at hl (i := 5) rfl) (by subst hq; exact k H L ls hW hS hl)
theorem g_lload_5 {e0 e1 e2 e3 e4 : Option Value} {x : Int64} {t : List (Option Value)} (C : CX E cc own lev) (d : decode cc pc = .ok (.lload 5, 2)) (hq : pc + 2 = q) (k : G E cl sl ad dm a b r q (e0 :: e1 :: e2 :: e3 :: e4 :: some (.long x) :: t) (.long x :: rest)) : G E cl sl ad dm a b r pc (e0 :: e1 :: e2 :: e3 :: e4 :: some (.long x) :: t) rest := fun H L ls hW hS hl => lv_lload C.1 C.2.1 d (lh_at hl (i := 5) rfl) (by subst hq; exact k H L ls hW hS hl)
theorem g_aload_5 {e0 e1 e2 e3 e4 : Option Value} {x : Nat} {t : List (Option Value)} (C : CX E cc own lev) (d : decode cc pc = .ok (.aload 5, 2)) (hq : pc + 2 = q) (k : G E cl sl ad dm a b r q (e0 :: e1 :: e2 :: e3 :: e4 :: some (.ref x) :: t) (.ref x :: rest)) : G E cl sl ad dm a b r pc (e0 :: e1 :: e2 :: e3 :: e4 :: some (.ref x) :: t) rest := fun H L ls hW hS hl => lv_aload C.1 C.2.1 d (lh_at hl (i := 5) rfl) (by subst hq; exact k H L ls hW hS hl)
theorem g_aload_5N {e0 e1 e2 e3 e4 : Option Value} {t : List (Option Value)} (C : CX E cc own lev) (d : decode cc pc = .ok (.aload 5, 2)) (hq : pc + 2 = q) (k : G E cl sl ad dm a b r q (e0 :: e1 :: e2 :: e3 :: e4 :: some .null :: t) (.null :: rest)) : G E cl sl ad dm a b r pc (e0 :: e1 :: e2 :: e3 :: e4 :: some .null :: t) rest := fun H L ls hW hS hl => lv_aloadN C.1 C.2.1 d (lh_at hl (i := 5) rfl) (by subst hq; exact k H L ls hW hS hl)
theorem g_iload_6 {e0 e1 e2 e3 e4 e5 : Option Value} {x : Int32} {t : List (Option Value)} (C : CX E cc own lev) (d : decode cc pc = .ok (.iload 6, 2)) (hq : pc + 2 = q) (k : G E cl sl ad dm a b r q (e0 :: e1 :: e2 :: e3 :: e4 :: e5 :: some (.int x) :: t) (.int x :: rest)) : G E cl sl ad dm a b r pc (e0 :: e1 :: e2 :: e3 :: e4 :: e5 :: some (.int x) :: t) rest := fun H L ls hW hS hl => lv_iload C.1 C.2.1 d (lh_at hl (i := 6) rfl) (by subst hq; exact k H L ls hW hS hl)
theorem g_lload_6 {e0 e1 e2 e3 e4 e5 : Option Value} {x : Int64} {t : List (Option Value)} (C : CX E cc own lev) (d : decode cc pc = .ok (.lload 6, 2)) (hq : pc + 2 = q) (k : G E cl sl ad dm a b r q (e0 :: e1 :: e2 :: e3 :: e4 :: e5 :: some (.long x) :: t) (.long x :: rest)) : G E cl sl ad dm a b r pc (e0 :: e1 :: e2 :: e3 :: e4 :: e5 :: some (.long x) :: t) rest := fun H L ls hW hS hl => lv_lload C.1 C.2.1 d (lh_at hl (i := 6) rfl) (by subst hq; exact k H L ls hW hS hl)
theorem g_aload_6 {e0 e1 e2 e3 e4 e5 : Option Value} {x : Nat} {t : List (Option Value)} (C : CX E cc own lev) (d : decode cc pc = .ok (.aload 6, 2)) (hq : pc + 2 = q) (k : G E cl sl ad dm a b r q (e0 :: e1 :: e2 :: e3 :: e4 :: e5 :: some (.ref x) :: t) (.ref x :: rest)) : G E cl sl ad dm a b r pc (e0 :: e1 :: e2 :: e3 :: e4 :: e5 :: some (.ref x) :: t) rest := fun H L ls hW hS hl => lv_aload C.1 C.2.1 d (lh_at hl (i := 6) rfl) (by subst hq; exact k H L ls hW hS hl)
theorem g_aload_6N {e0 e1 e2 e3 e4 e5 : Option Value} {t : List (Option Value)} (C : CX E cc own lev) (d : decode cc pc = .ok (.aload 6, 2)) (hq : pc + 2 = q) (k : G E cl sl ad dm a b r q (e0 :: e1 :: e2 :: e3 :: e4 :: e5 :: some .null :: t) (.null :: rest)) : G E cl sl ad dm a b r pc (e0 :: e1 :: e2 :: e3 :: e4 :: e5 :: some .null :: t) rest := fun H L ls hW hS hl => lv_aloadN C.1 C.2.1 d (lh_at hl (i := 6) rfl) (by subst hq; exact k H L ls hW hS hl)
theorem g_iload_7 {e0 e1 e2 e3 e4 e5 e6 : Option Value} {x : Int32} {t : List (Option Value)} (C : CX E cc own lev) (d : decode cc pc = .ok (.iload 7, 2)) (hq : pc + 2 = q) (k : G E cl sl ad dm a b r q (e0 :: e1 :: e2 :: e3 :: e4 :: e5 :: e6 :: some (.int x) :: t) (.int x :: rest)) : G E cl sl ad dm a b r pc (e0 :: e1 :: e2 :: e3 :: e4 :: e5 :: e6 :: some (.int x) :: t) rest := fun H L ls hW hS hl => lv_iload C.1 C.2.1 d (lh_at hl (i := 7) rfl) (by subst hq; exact k H L ls hW hS hl)
theorem g_lload_7 {e0 e1 e2 e3 e4 e5 e6 : Option Value} {x : Int64} {t : List (Option Value)} (C : CX E cc own lev) (d : decode cc pc = .ok (.lload 7, 2)) (hq : pc + 2 = q) (k : G E cl sl ad dm a b r q (e0 :: e1 :: e2 :: e3 :: e4 :: e5 :: e6 :: some (.long x) :: t) (.long x :: rest)) : G E cl sl ad dm a b r pc (e0 :: e1 :: e2 :: e3 :: e4 :: e5 :: e6 :: some (.long x) :: t) rest := fun H L ls hW hS hl => lv_lload C.1 C.2.1 d (lh_at hl (i := 7) rfl) (by subst hq; exact k H L ls hW hS hl)
theorem g_aload_7 {e0 e1 e2 e3 e4 e5 e6 : Option Value} {x : Nat} {t : List (Option Value)} (C : CX E cc own lev) (d : decode cc pc = .ok (.aload 7, 2)) (hq : pc + 2 = q) (k : G E cl sl ad dm a b r q (e0 :: e1 :: e2 :: e3 :: e4 :: e5 :: e6 :: some (.ref x) :: t) (.ref x :: rest)) : G E cl sl ad dm a b r pc (e0 :: e1 :: e2 :: e3 :: e4 :: e5 :: e6 :: some (.ref x) :: t) rest := fun H L ls hW hS hl => lv_aload C.1 C.2.1 d (lh_at hl (i := 7) rfl) (by subst hq; exact k H L ls hW hS hl)
theorem g_aload_7N {e0 e1 e2 e3 e4 e5 e6 : Option Value} {t : List (Option Value)} (C : CX E cc own lev) (d : decode cc pc = .ok (.aload 7, 2)) (hq : pc + 2 = q) (k : G E cl sl ad dm a b r q (e0 :: e1 :: e2 :: e3 :: e4 :: e5 :: e6 :: some .null :: t) (.null :: rest)) : G E cl sl ad dm a b r pc (e0 :: e1 :: e2 :: e3 :: e4 :: e5 :: e6 :: some .null :: t) rest := fun H L ls hW hS hl => lv_aloadN C.1 C.2.1 d (lh_at hl (i := 7) rfl) (by subst hq; exact k H L ls hW hS hl)
theorem g_iload_8 {e0 e1 e2 e3 e4 e5 e6 e7 : Option Value} {x : Int32} {t : List (Option Value)} (C : CX E cc own lev) (d : decode cc pc = .ok (.iload 8, 2)) (hq : pc + 2 = q) (k : G E cl sl ad dm a b r q (e0 :: e1 :: e2 :: e3 :: e4 :: e5 :: e6 :: e7 :: some (.int x) :: t) (.int x :: rest)) : G E cl sl ad dm a b r pc (e0 :: e1 :: e2 :: e3 :: e4 :: e5 :: e6 :: e7 :: some (.int x) :: t) rest := fun H L ls hW hS hl => lv_iload C.1 C.2.1 d (lh_at hl (i := 8) rfl) (by subst hq; exact k H L ls hW hS hl)
theorem g_lload_8 {e0 e1 e2 e3 e4 e5 e6 e7 : Option Value} {x : Int64} {t : List (Option Value)} (C : CX E cc own lev) (d : decode cc pc = .ok (.lload 8, 2)) (hq : pc + 2 = q) (k : G E cl sl ad dm a b r q (e0 :: e1 :: e2 :: e3 :: e4 :: e5 :: e6 :: e7 :: some (.long x) :: t) (.long x :: rest)) : G E cl sl ad dm a b r pc (e0 :: e1 :: e2 :: e3 :: e4 :: e5 :: e6 :: e7 :: some (.long x) :: t) rest := fun H L ls hW hS hl => lv_lload C.1 C.2.1 d (lh_at hl (i := 8) rfl) (by subst hq; exact k H L ls hW hS hl)
theorem g_aload_8 {e0 e1 e2 e3 e4 e5 e6 e7 : Option Value} {x : Nat} {t : List (Option Value)} (C : CX E cc own lev) (d : decode cc pc = .ok (.aload 8, 2)) (hq : pc + 2 = q) (k : G E cl sl ad dm a b r q (e0 :: e1 :: e2 :: e3 :: e4 :: e5 :: e6 :: e7 :: some (.ref x) :: t) (.ref x :: rest)) : G E cl sl ad dm a b r pc (e0 :: e1 :: e2 :: e3 :: e4 :: e5 :: e6 :: e7 :: some (.ref x) :: t) rest := fun H L ls hW hS hl => lv_aload C.1 C.2.1 d (lh_at hl (i := 8) rfl) (by subst hq; exact k H L ls hW hS hl)
theorem g_aload_8N {e0 e1 e2 e3 e4 e5 e6 e7 : Option Value} {t : List (Option Value)} (C : CX E cc own lev) (d : decode cc pc = .ok (.aload 8, 2)) (hq : pc + 2 = q) (k : G E cl sl ad dm a b r q (e0 :: e1 :: e2 :: e3 :: e4 :: e5 :: e6 :: e7 :: some .null :: t) (.null :: rest)) : G E cl sl ad dm a b r pc (e0 :: e1 :: e2 :: e3 :: e4 :: e5 :: e6 :: e7 :: some .null :: t) rest := fun H L ls hW hS hl => lv_aloadN C.1 C.2.1 d (lh_at hl (i := 8) rfl) (by subst hq; exact k H L ls hW hS hl)
theorem g_iload_9 {e0 e1 e2 e3 e4 e5 e6 e7 e8 : Option Value} {x : Int32} {t : List (Option Value)} (C : CX E cc own lev) (d : decode cc pc = .ok (.iload 9, 2)) (hq : pc + 2 = q) (k : G E cl sl ad dm a b r q (e0 :: e1 :: e2 :: e3 :: e4 :: e5 :: e6 :: e7 :: e8 :: some (.int x) :: t) (.int x :: rest)) : G E cl sl ad dm a b r pc (e0 :: e1 :: e2 :: e3 :: e4 :: e5 :: e6 :: e7 :: e8 :: some (.int x) :: t) rest := fun H L ls hW hS hl => lv_iload C.1 C.2.1 d (lh_at hl (i := 9) rfl) (by subst hq; exact k H L ls hW hS hl)
theorem g_lload_9 {e0 e1 e2 e3 e4 e5 e6 e7 e8 : Option Value} {x : Int64} {t : List (Option Value)} (C : CX E cc own lev) (d : decode cc pc = .ok (.lload 9, 2)) (hq : pc + 2 = q) (k : G E cl sl ad dm a b r q (e0 :: e1 :: e2 :: e3 :: e4 :: e5 :: e6 :: e7 :: e8 :: some (.long x) :: t) (.long x :: rest)) : G E cl sl ad dm a b r pc (e0 :: e1 :: e2 :: e3 :: e4 :: e5 :: e6 :: e7 :: e8 :: some (.long x) :: t) rest := fun H L ls hW hS hl => lv_lload C.1 C.2.1 d (lh_at hl (i := 9) rfl) (by subst hq; exact k H L ls hW hS hl)
theorem g_aload_9 {e0 e1 e2 e3 e4 e5 e6 e7 e8 : Option Value} {x : Nat} {t : List (Option Value)} (C : CX E cc own lev) (d : decode cc pc = .ok (.aload 9, 2)) (hq : pc + 2 = q) (k : G E cl sl ad dm a b r q (e0 :: e1 :: e2 :: e3 :: e4 :: e5 :: e6 :: e7 :: e8 :: some (.ref x) :: t) (.ref x :: rest)) : G E cl sl ad dm a b r pc (e0 :: e1 :: e2 :: e3 :: e4 :: e5 :: e6 :: e7 :: e8 :: some (.ref x) :: t) rest := fun H L ls hW hS hl => lv_aload C.1 C.2.1 d (lh_at hl (i := 9) rfl) (by subst hq; exact k H L ls hW hS hl)
theorem g_aload_9N {e0 e1 e2 e3 e4 e5 e6 e7 e8 : Option Value} {t : List (Option Value)} (C : CX E cc own lev) (d : decode cc pc = .ok (.aload 9, 2)) (hq : pc + 2 = q) (k : G E cl sl ad dm a b r q (e0 :: e1 :: e2 :: e3 :: e4 :: e5 :: e6 :: e7 :: e8 :: some .null :: t) (.null :: rest)) : G E cl sl ad dm a b r pc (e0 :: e1 :: e2 :: e3 :: e4 :: e5 :: e6 :: e7 :: e8 :: some .null :: t) rest := fun H L ls hW hS hl => lv_aloadN C.1 C.2.1 d (lh_at hl (i := 9) rfl) (by subst hq; exact k H L ls hW hS hl)
theorem g_iload_10 {e0 e1 e2 e3 e4 e5 e6 e7 e8 e9 : Option Value} {x : Int32} {t : List (Option Value)} (C : CX E cc own lev) (d : decode cc pc = .ok (.iload 10, 2)) (hq : pc + 2 = q) (k : G E cl sl ad dm a b r q (e0 :: e1 :: e2 :: e3 :: e4 :: e5 :: e6 :: e7 :: e8 :: e9 :: some (.int x) :: t) (.int x :: rest)) : G E cl sl ad dm a b r pc (e0 :: e1 :: e2 :: e3 :: e4 :: e5 :: e6 :: e7 :: e8 :: e9 :: some (.int x) :: t) rest := fun H L ls hW hS hl => lv_iload C.1 C.2.1 d (lh_at hl (i := 10) rfl) (by subst hq; exact k H L ls hW hS hl)
theorem g_lload_10 {e0 e1 e2 e3 e4 e5 e6 e7 e8 e9 : Option Value} {x : Int64} {t : List (Option Value)} (C : CX E cc own lev) (d : decode cc pc = .ok (.lload 10, 2)) (hq : pc + 2 = q) (k : G E cl sl ad dm a b r q (e0 :: e1 :: e2 :: e3 :: e4 :: e5 :: e6 :: e7 :: e8 :: e9 :: some (.long x) :: t) (.long x :: rest)) : G E cl sl ad dm a b r pc (e0 :: e1 :: e2 :: e3 :: e4 :: e5 :: e6 :: e7 :: e8 :: e9 :: some (.long x) :: t) rest := fun H L ls hW hS hl => lv_lload C.1 C.2.1 d (lh_at hl (i := 10) rfl) (by subst hq; exact k H L ls hW hS hl)
theorem g_aload_10 {e0 e1 e2 e3 e4 e5 e6 e7 e8 e9 : Option Value} {x : Nat} {t : List (Option Value)} (C : CX E cc own lev) (d : decode cc pc = .ok (.aload 10, 2)) (hq : pc + 2 = q) (k : G E cl sl ad dm a b r q (e0 :: e1 :: e2 :: e3 :: e4 :: e5 :: e6 :: e7 :: e8 :: e9 :: some (.ref x) :: t) (.ref x :: rest)) : G E cl sl ad dm a b r pc (e0 :: e1 :: e2 :: e3 :: e4 :: e5 :: e6 :: e7 :: e8 :: e9 :: some (.ref x) :: t) rest := fun H L ls hW hS hl => lv_aload C.1 C.2.1 d (lh_at hl (i := 10) rfl) (by subst hq; exact k H L ls hW hS hl)
theorem g_aload_10N {e0 e1 e2 e3 e4 e5 e6 e7 e8 e9 : Option Value} {t : List (Option Value)} (C : CX E cc own lev) (d : decode cc pc = .ok (.aload 10, 2)) (hq : pc + 2 = q) (k : G E cl sl ad dm a b r q (e0 :: e1 :: e2 :: e3 :: e4 :: e5 :: e6 :: e7 :: e8 :: e9 :: some .null :: t) (.null :: rest)) : G E cl sl ad dm a b r pc (e0 :: e1 :: e2 :: e3 :: e4 :: e5 :: e6 :: e7 :: e8 :: e9 :: some .null :: t) rest := fun H L ls hW hS hl => lv_aloadN C.1 C.2.1 d (lh_at hl (i := 10) rfl) (by subst hq; exact k H L ls hW hS hl)
theorem g_iload_11 {e0 e1 e2 e3 e4 e5 e6 e7 e8 e9 e10 : Option Value} {x : Int32} {t : List (Option Value)} (C : CX E cc own lev) (d : decode cc pc = .ok (.iload 11, 2)) (hq : pc + 2 = q) (k : G E cl sl ad dm a b r q (e0 :: e1 :: e2 :: e3 :: e4 :: e5 :: e6 :: e7 :: e8 :: e9 :: e10 :: some (.int x) :: t) (.int x :: rest)) : G E cl sl ad dm a b r pc (e0 :: e1 :: e2 :: e3 :: e4 :: e5 :: e6 :: e7 :: e8 :: e9 :: e10 :: some (.int x) :: t) rest := fun H L ls hW hS hl => lv_iload C.1 C.2.1 d (lh_at hl (i := 11) rfl) (by subst hq; exact k H L ls hW hS hl)
theorem g_lload_11 {e0 e1 e2 e3 e4 e5 e6 e7 e8 e9 e10 : Option Value} {x : Int64} {t : List (Option Value)} (C : CX E cc own lev) (d : decode cc pc = .ok (.lload 11, 2)) (hq : pc + 2 = q) (k : G E cl sl ad dm a b r q (e0 :: e1 :: e2 :: e3 :: e4 :: e5 :: e6 :: e7 :: e8 :: e9 :: e10 :: some (.long x) :: t) (.long x :: rest)) : G E cl sl ad dm a b r pc (e0 :: e1 :: e2 :: e3 :: e4 :: e5 :: e6 :: e7 :: e8 :: e9 :: e10 :: some (.long x) :: t) rest := fun H L ls hW hS hl => lv_lload C.1 C.2.1 d (lh_at hl (i := 11) rfl) (by subst hq; exact k H L ls hW hS hl)
theorem g_aload_11 {e0 e1 e2 e3 e4 e5 e6 e7 e8 e9 e10 : Option Value} {x : Nat} {t : List (Option Value)} (C : CX E cc own lev) (d : decode cc pc = .ok (.aload 11, 2)) (hq : pc + 2 = q) (k : G E cl sl ad dm a b r q (e0 :: e1 :: e2 :: e3 :: e4 :: e5 :: e6 :: e7 :: e8 :: e9 :: e10 :: some (.ref x) :: t) (.ref x :: rest)) : G E cl sl ad dm a b r pc (e0 :: e1 :: e2 :: e3 :: e4 :: e5 :: e6 :: e7 :: e8 :: e9 :: e10 :: some (.ref x) :: t) rest := fun H L ls hW hS hl => lv_aload C.1 C.2.1 d (lh_at hl (i := 11) rfl) (by subst hq; exact k H L ls hW hS hl)
theorem g_aload_11N {e0 e1 e2 e3 e4 e5 e6 e7 e8 e9 e10 : Option Value} {t : List (Option Value)} (C : CX E cc own lev) (d : decode cc pc = .ok (.aload 11, 2)) (hq : pc + 2 = q) (k : G E cl sl ad dm a b r q (e0 :: e1 :: e2 :: e3 :: e4 :: e5 :: e6 :: e7 :: e8 :: e9 :: e10 :: some .null :: t) (.null :: rest)) : G E cl sl ad dm a b r pc (e0 :: e1 :: e2 :: e3 :: e4 :: e5 :: e6 :: e7 :: e8 :: e9 :: e10 :: some .null :: t) rest := fun H L ls hW hS hl => lv_aloadN C.1 C.2.1 d (lh_at hl (i := 11) rfl) (by subst hq; exact k H L ls hW hS hl)
theorem g_iload_12 {e0 e1 e2 e3 e4 e5 e6 e7 e8 e9 e10 e11 : Option Value} {x : Int32} {t : List (Option Value)} (C : CX E cc own lev) (d : decode cc pc = .ok (.iload 12, 2)) (hq : pc + 2 = q) (k : G E cl sl ad dm a b r q (e0 :: e1 :: e2 :: e3 :: e4 :: e5 :: e6 :: e7 :: e8 :: e9 :: e10 :: e11 :: some (.int x) :: t) (.int x :: rest)) : G E cl sl ad dm a b r pc (e0 :: e1 :: e2 :: e3 :: e4 :: e5 :: e6 :: e7 :: e8 :: e9 :: e10 :: e11 :: some (.int x) :: t) rest := fun H L ls hW hS hl => lv_iload C.1 C.2.1 d (lh_at hl (i := 12) rfl) (by subst hq; exact k H L ls hW hS hl)
theorem g_lload_12 {e0 e1 e2 e3 e4 e5 e6 e7 e8 e9 e10 e11 : Option Value} {x : Int64} {t : List (Option Value)} (C : CX E cc own lev) (d : decode cc pc = .ok (.lload 12, 2)) (hq : pc + 2 = q) (k : G E cl sl ad dm a b r q (e0 :: e1 :: e2 :: e3 :: e4 :: e5 :: e6 :: e7 :: e8 :: e9 :: e10 :: e11 :: some (.long x) :: t) (.long x :: rest)) : G E cl sl ad dm a b r pc (e0 :: e1 :: e2 :: e3 :: e4 :: e5 :: e6 :: e7 :: e8 :: e9 :: e10 :: e11 :: some (.long x) :: t) rest := fun H L ls hW hS hl => lv_lload C.1 C.2.1 d (lh_at hl (i := 12) rfl) (by subst hq; exact k H L ls hW hS hl)
theorem g_aload_12 {e0 e1 e2 e3 e4 e5 e6 e7 e8 e9 e10 e11 : Option Value} {x : Nat} {t : List (Option Value)} (C : CX E cc own lev) (d : decode cc pc = .ok (.aload 12, 2)) (hq : pc + 2 = q) (k : G E cl sl ad dm a b r q (e0 :: e1 :: e2 :: e3 :: e4 :: e5 :: e6 :: e7 :: e8 :: e9 :: e10 :: e11 :: some (.ref x) :: t) (.ref x :: rest)) : G E cl sl ad dm a b r pc (e0 :: e1 :: e2 :: e3 :: e4 :: e5 :: e6 :: e7 :: e8 :: e9 :: e10 :: e11 :: some (.ref x) :: t) rest := fun H L ls hW hS hl => lv_aload C.1 C.2.1 d (lh_at hl (i := 12) rfl) (by subst hq; exact k H L ls hW hS hl)
theorem g_aload_12N {e0 e1 e2 e3 e4 e5 e6 e7 e8 e9 e10 e11 : Option Value} {t : List (Option Value)} (C : CX E cc own lev) (d : decode cc pc = .ok (.aload 12, 2)) (hq : pc + 2 = q) (k : G E cl sl ad dm a b r q (e0 :: e1 :: e2 :: e3 :: e4 :: e5 :: e6 :: e7 :: e8 :: e9 :: e10 :: e11 :: some .null :: t) (.null :: rest)) : G E cl sl ad dm a b r pc (e0 :: e1 :: e2 :: e3 :: e4 :: e5 :: e6 :: e7 :: e8 :: e9 :: e10 :: e11 :: some .null :: t) rest := fun H L ls hW hS hl => lv_aloadN C.1 C.2.1 d (lh_at hl (i := 12) rfl) (by subst hq; exact k H L ls hW hS hl)
/-- a store into a local: the slot before holds no long -/
def okst (lo : List (Option Value)) : Nat → Bool
  | 0 => true
  | j + 1 => match lo[j]? with
    | some (some v) => v.category != 2
    | _ => true
theorem lh_st {ls : Array Slot} {nL : Nat} {lo lo' : List (Option Value)} {i : Nat} {v : Value} (hl : lv_has ls nL ((i, v) :: (las 0 lo).filter (fun q => !(q.1 == i) && !(q.1 + 1 == i && q.2.category == 2)))) (ho : okst lo i = true) (h1 : ∀ w, lo'[i]? = some (some w) → w = v) (h2 : ∀ j w, j ≠ i → lo'[j]? = some (some w) → lo[j]? = some (some w)) : lh ls nL lo' := by
  refine ⟨hl.1, hl.2.1, fun z hz => ?_⟩
  obtain ⟨j, e, hj⟩ := las_in lo' 0 z hz
  have e : z.1 = j := by omega
  by_cases hji : j = i
  · subst hji
    rw [e, h1 _ hj]
    exact hl.2.2 (j, v) List.mem_cons_self
  · have h3 := h2 j _ hji hj
    refine hl.2.2 z (List.mem_cons_of_mem _ (List.mem_filter.mpr ⟨?_, ?_⟩))
    · have h4 := las_mem lo 0 j z.2 h3
      rw [Nat.zero_add, ← e] at h4
      exact h4
    · rw [e]
      cases i with
      | zero => simp [hji]
      | succ i =>
        by_cases hj2 : j = i
        · subst hj2
          simp only [okst, h3] at ho
          simp at ho
          simp [ho]
        · simp [hji, hj2]

theorem lh_st2 {ls : Array Slot} {nL : Nat} {lo lo' : List (Option Value)} {i : Nat} {v : Value} (hl : lv_has ls nL ((i, v) :: (las 0 lo).filter (fun q => !(q.1 == i) && (!(q.1 == i + 1) && !(q.1 + 1 == i && q.2.category == 2))))) (ho : okst lo i = true) (h1 : ∀ w, lo'[i]? = some (some w) → w = v) (h0 : ∀ w, ¬ lo'[i + 1]? = some (some w)) (h2 : ∀ j w, j ≠ i → j ≠ i + 1 → lo'[j]? = some (some w) → lo[j]? = some (some w)) : lh ls nL lo' := by
  refine ⟨hl.1, hl.2.1, fun z hz => ?_⟩
  obtain ⟨j, e, hj⟩ := las_in lo' 0 z hz
  have e : z.1 = j := by omega
  by_cases hji : j = i
  · subst hji
    rw [e, h1 _ hj]
    exact hl.2.2 (j, v) List.mem_cons_self
  · have hj9 : j ≠ i + 1 := fun z9 => h0 _ (z9 ▸ hj)
    have h3 := h2 j _ hji hj9 hj
    refine hl.2.2 z (List.mem_cons_of_mem _ (List.mem_filter.mpr ⟨?_, ?_⟩))
    · have h4 := las_mem lo 0 j z.2 h3
      rw [Nat.zero_add, ← e] at h4
      exact h4
    · rw [e]
      cases i with
      | zero => simp [hji, hj9] <;> omega
      | succ i =>
        by_cases hj2 : j = i
        · subst hj2
          simp only [okst, h3] at ho
          simp at ho
          simp [ho] <;> omega
        · simp [hji, hj2] <;> omega

theorem g_istore_1 {e0 e1 : Option Value} {x : Int32} {t : List (Option Value)} (C : CX E cc own lev) (d : decode cc pc = .ok (.istore_n 1, 1)) (hq : pc + 1 = q) (hn : 1 < eN E) (ho : okst (e0 :: e1 :: t) 1 = true) (k : G E cl sl ad dm a b r q (e0 :: some (.int x) :: t) rest) : G E cl sl ad dm a b r pc (e0 :: e1 :: t) (.int x :: rest) := fun H L ls hW hS hl => lv_istore_n C.1 C.2.1 d rfl hl hn rfl (fun ls' h' => by
  subst hq
  refine k H L ls' hW hS (lh_st h' ho (fun w h => by cases h; rfl) (fun j w hj h => ?_))
  iterate 2 (rcases j with _ | j; (first | exact absurd rfl hj | exact h | exact absurd rfl hj2))
  exact h)
theorem g_astore_1 {e0 e1 : Option Value} {x : Nat} {t : List (Option Value)} (C : CX E cc own lev) (d : decode cc pc = .ok (.astore_n 1, 1)) (hq : pc + 1 = q) (hn : 1 < eN E) (ho : okst (e0 :: e1 :: t) 1 = true) (k : G E cl sl ad dm a b r q (e0 :: some (.ref x) :: t) rest) : G E cl sl ad dm a b r pc (e0 :: e1 :: t) (.ref x :: rest) := fun H L ls hW hS hl => lv_astore_n C.1 C.2.1 d rfl hl hn rfl (fun ls' h' => by
  subst hq
  refine k H L ls' hW hS (lh_st h' ho (fun w h => by cases h; rfl) (fun j w hj h => ?_))
  iterate 2 (rcases j with _ | j; (first | exact absurd rfl hj | exact h | exact absurd rfl hj2))
  exact h)
theorem g_lstore_1 {e0 e1 : Option Value} {f : Option Value} {x : Int64} {t : List (Option Value)} (C : CX E cc own lev) (d : decode cc pc = .ok (.lstore_n 1, 1)) (hq : pc + 1 = q) (hn : 2 < eN E) (ho : okst (e0 :: e1 :: f :: t) 1 = true) (k : G E cl sl ad dm a b r q (e0 :: some (.long x) :: none :: t) rest) : G E cl sl ad dm a b r pc (e0 :: e1 :: f :: t) (.long x :: rest) := fun H L ls hW hS hl => lv_lstore_n C.1 C.2.1 d rfl hl hn rfl (fun ls' h' => by
  subst hq
  refine k H L ls' hW hS (lh_st2 h' ho (fun w h => by cases h; rfl) (fun w h => by cases h) (fun j w hj hj2 h => ?_))
  iterate 3 (rcases j with _ | j; (first | exact absurd rfl hj | exact h | exact absurd rfl hj2))
  exact h)
theorem g_istore_2 {e0 e1 e2 : Option Value} {x : Int32} {t : List (Option Value)} (C : CX E cc own lev) (d : decode cc pc = .ok (.istore_n 2, 1)) (hq : pc + 1 = q) (hn : 2 < eN E) (ho : okst (e0 :: e1 :: e2 :: t) 2 = true) (k : G E cl sl ad dm a b r q (e0 :: e1 :: some (.int x) :: t) rest) : G E cl sl ad dm a b r pc (e0 :: e1 :: e2 :: t) (.int x :: rest) := fun H L ls hW hS hl => lv_istore_n C.1 C.2.1 d rfl hl hn rfl (fun ls' h' => by
  subst hq
  refine k H L ls' hW hS (lh_st h' ho (fun w h => by cases h; rfl) (fun j w hj h => ?_))
  iterate 3 (rcases j with _ | j; (first | exact absurd rfl hj | exact h | exact absurd rfl hj2))
  exact h)
theorem g_astore_2 {e0 e1 e2 : Option Value} {x : Nat} {t : List (Option Value)} (C : CX E cc own lev) (d : decode cc pc = .ok (.astore_n 2, 1)) (hq : pc + 1 = q) (hn : 2 < eN E) (ho : okst (e0 :: e1 :: e2 :: t) 2 = true) (k : G E cl sl ad dm a b r q (e0 :: e1 :: some (.ref x) :: t) rest) : G E cl sl ad dm a b r pc (e0 :: e1 :: e2 :: t) (.ref x :: rest) := fun H L ls hW hS hl => lv_astore_n C.1 C.2.1 d rfl hl hn rfl (fun ls' h' => by
  subst hq
  refine k H L ls' hW hS (lh_st h' ho (fun w h => by cases h; rfl) (fun j w hj h => ?_))
  iterate 3 (rcases j with _ | j; (first | exact absurd rfl hj | exact h | exact absurd rfl hj2))
  exact h)
theorem g_lstore_2 {e0 e1 e2 : Option Value} {f : Option Value} {x : Int64} {t : List (Option Value)} (C : CX E cc own lev) (d : decode cc pc = .ok (.lstore_n 2, 1)) (hq : pc + 1 = q) (hn : 3 < eN E) (ho : okst (e0 :: e1 :: e2 :: f :: t) 2 = true) (k : G E cl sl ad dm a b r q (e0 :: e1 :: some (.long x) :: none :: t) rest) : G E cl sl ad dm a b r pc (e0 :: e1 :: e2 :: f :: t) (.long x :: rest) := fun H L ls hW hS hl => lv_lstore_n C.1 C.2.1 d rfl hl hn rfl (fun ls' h' => by
  subst hq
  refine k H L ls' hW hS (lh_st2 h' ho (fun w h => by cases h; rfl) (fun w h => by cases h) (fun j w hj hj2 h => ?_))
  iterate 4 (rcases j with _ | j; (first | exact absurd rfl hj | exact h | exact absurd rfl hj2))
  exact h)
theorem g_istore_3 {e0 e1 e2 e3 : Option Value} {x : Int32} {t : List (Option Value)} (C : CX E cc own lev) (d : decode cc pc = .ok (.istore_n 3, 1)) (hq : pc + 1 = q) (hn : 3 < eN E) (ho : okst (e0 :: e1 :: e2 :: e3 :: t) 3 = true) (k : G E cl sl ad dm a b r q (e0 :: e1 :: e2 :: some (.int x) :: t) rest) : G E cl sl ad dm a b r pc (e0 :: e1 :: e2 :: e3 :: t) (.int x :: rest) := fun H L ls hW hS hl => lv_istore_n C.1 C.2.1 d rfl hl hn rfl (fun ls' h' => by
  subst hq
  refine k H L ls' hW hS (lh_st h' ho (fun w h => by cases h; rfl) (fun j w hj h => ?_))
  iterate 4 (rcases j with _ | j; (first | exact absurd rfl hj | exact h | exact absurd rfl hj2))
  exact h)
theorem g_astore_3 {e0 e1 e2 e3 : Option Value} {x : Nat} {t : List (Option Value)} (C : CX E cc own lev) (d : decode cc pc = .ok (.astore_n 3, 1)) (hq : pc + 1 = q) (hn : 3 < eN E) (ho : okst (e0 :: e1 :: e2 :: e3 :: t) 3 = true) (k : G E cl sl ad dm a b r q (e0 :: e1 :: e2 :: some (.ref x) :: t) rest) : G E cl sl ad dm a b r pc (e0 :: e1 :: e2 :: e3 :: t) (.ref x :: rest) := fun H L ls hW hS hl => lv_astore_n C.1 C.2.1 d rfl hl hn rfl (fun ls' h' => by
  subst hq
  refine k H L ls' hW hS (lh_st h' ho (fun w h => by cases h; rfl) (fun j w hj h => ?_))
  iterate 4 (rcases j with _ | j; (first | exact absurd rfl hj | exact h | exact absurd rfl hj2))
  exact h)
theorem g_lstore_3 {e0 e1 e2 e3 : Option Value} {f : Option Value} {x : Int64} {t : List (Option Value)} (C : CX E cc own lev) (d : decode cc pc = .ok (.lstore_n 3, 1)) (hq : pc + 1 = q) (hn : 4 < eN E) (ho : okst (e0 :: e1 :: e2 :: e3 :: f :: t) 3 = true) (k : G E cl sl ad dm a b r q (e0 :: e1 :: e2 :: some (.long x) :: none :: t) rest) : G E cl sl ad dm a b r pc (e0 :: e1 :: e2 :: e3 :: f :: t) (.long x :: rest) := fun H L ls hW hS hl => lv_lstore_n C.1 C.2.1 d rfl hl hn rfl (fun ls' h' => by
  subst hq
  refine k H L ls' hW hS (lh_st2 h' ho (fun w h => by cases h; rfl) (fun w h => by cases h) (fun j w hj hj2 h => ?_))
  iterate 5 (rcases j with _ | j; (first | exact absurd rfl hj | exact h | exact absurd rfl hj2))
  exact h)
theorem g_istore_4 {e0 e1 e2 e3 e4 : Option Value} {x : Int32} {t : List (Option Value)} (C : CX E cc own lev) (d : decode cc pc = .ok (.istore 4, 2)) (hq : pc + 2 = q) (hn : 4 < eN E) (ho : okst (e0 :: e1 :: e2 :: e3 :: e4 :: t) 4 = true) (k : G E cl sl ad dm a b r q (e0 :: e1 :: e2 :: e3 :: some (.int x) :: t) rest) : G E cl sl ad dm a b r pc (e0 :: e1 :: e2 :: e3 :: e4 :: t) (.int x :: rest) := fun H L ls hW hS hl => lv_istore C.1 C.2.1 d hl hn rfl (fun ls' h' => by
  subst hq
  refine k H L ls' hW hS (lh_st h' ho (fun w h => by cases h; rfl) (fun j w hj h => ?_))
  iterate 5 (rcases j with _ | j; (first | exact absurd rfl hj | exact h | exact absurd rfl hj2))
  exact h)
theorem g_astore_4 {e0 e1 e2 e3 e4 : Option Value} {x : Nat} {t : List (Option Value)} (C : CX E cc own lev) (d : decode cc pc = .ok (.astore 4, 2)) (hq : pc + 2 = q) (hn : 4 < eN E) (ho : okst (e0 :: e1 :: e2 :: e3 :: e4 :: t) 4 = true) (k : G E cl sl ad dm a b r q (e0 :: e1 :: e2 :: e3 :: some (.ref x) :: t) rest) : G E cl sl ad dm a b r pc (e0 :: e1 :: e2 :: e3 :: e4 :: t) (.ref x :: rest) := fun H L ls hW hS hl => lv_astore C.1 C.2.1 d hl hn rfl (fun ls' h' => by
  subst hq
  refine k H L ls' hW hS (lh_st h' ho (fun w h => by cases h; rfl) (fun j w hj h => ?_))
  iterate 5 (rcases j with _ | j; (first | exact absurd rfl hj | exact h | exact absurd rfl hj2))
  exact h)
theorem g_lstore_4 {e0 e1 e2 e3 e4 : Option Value} {f : Option Value} {x : Int64} {t : List (Option Value)} (C : CX E cc own lev) (d : decode cc pc = .ok (.lstore 4, 2)) (hq : pc + 2 = q) (hn : 5 < eN E) (ho : okst (e0 :: e1 :: e2 :: e3 :: e4 :: f :: t) 4 = true) (k : G E cl sl ad dm a b r q (e0 :: e1 :: e2 :: e3 :: some (.long x) :: none :: t) rest) : G E cl sl ad dm a b r pc (e0 :: e1 :: e2 :: e3 :: e4 :: f :: t) (.long x :: rest) := fun H L ls hW hS hl => lv_lstore C.1 C.2.1 d hl hn rfl (fun ls' h' => by
  subst hq
  refine k H L ls' hW hS (lh_st2 h' ho (fun w h => by cases h; rfl) (fun w h => by cases h) (fun j w hj hj2 h => ?_))
  iterate 6 (rcases j with _ | j; (first | exact absurd rfl hj | exact h | exact absurd rfl hj2))
  exact h)
theorem g_istore_5 {e0 e1 e2 e3 e4 e5 : Option Value} {x : Int32} {t : List (Option Value)} (C : CX E cc own lev) (d : decode cc pc = .ok (.istore 5, 2)) (hq : pc + 2 = q) (hn : 5 < eN E) (ho : okst (e0 :: e1 :: e2 :: e3 :: e4 :: e5 :: t) 5 = true) (k : G E cl sl ad dm a b r q (e0 :: e1 :: e2 :: e3 :: e4 :: some (.int x) :: t) rest) : G E cl sl ad dm a b r pc (e0 :: e1 :: e2 :: e3 :: e4 :: e5 :: t) (.int x :: rest) := fun H L ls hW hS hl => lv_istore C.1 C.2.1 d hl hn rfl (fun ls' h' => by
  subst hq
  refine k H L ls' hW hS (lh_st h' ho (fun w h => by cases h; rfl) (fun j w hj h => ?_))
  iterate 6 (rcases j with _ | j; (first | exact absurd rfl hj | exact h | exact absurd rfl hj2))
  exact h)
theorem g_astore_5 {e0 e1 e2 e3 e4 e5 : Option Value} {x : Nat} {t : List (Option Value)} (C : CX E cc own lev) (d : decode cc pc = .ok (.astore 5, 2)) (hq : pc + 2 = q) (hn : 5 < eN E) (ho : okst (e0 :: e1 :: e2 :: e3 :: e4 :: e5 :: t) 5 = true) (k : G E cl sl ad dm a b r q (e0 :: e1 :: e2 :: e3 :: e4 :: some (.ref x) :: t) rest) : G E cl sl ad dm a b r pc (e0 :: e1 :: e2 :: e3 :: e4 :: e5 :: t) (.ref x :: rest) := fun H L ls hW hS hl => lv_astore C.1 C.2.1 d hl hn rfl (fun ls' h' => by
  subst hq
  refine k H L ls' hW hS (lh_st h' ho (fun w h => by cases h; rfl) (fun j w hj h => ?_))
  iterate 6 (rcases j with _ | j; (first | exact absurd rfl hj | exact h | exact absurd rfl hj2))
  exact h)
theorem g_lstore_5 {e0 e1 e2 e3 e4 e5 : Option Value} {f : Option Value} {x : Int64} {t : List (Option Value)} (C : CX E cc own lev) (d : decode cc pc = .ok (.lstore 5, 2)) (hq : pc + 2 = q) (hn : 6 < eN E) (ho : okst (e0 :: e1 :: e2 :: e3 :: e4 :: e5 :: f :: t) 5 = true) (k : G E cl sl ad dm a b r q (e0 :: e1 :: e2 :: e3 :: e4 :: some (.long x) :: none :: t) rest) : G E cl sl ad dm a b r pc (e0 :: e1 :: e2 :: e3 :: e4 :: e5 :: f :: t) (.long x :: rest) := fun H L ls hW hS hl => lv_lstore C.1 C.2.1 d hl hn rfl (fun ls' h' => by
  subst hq
  refine k H L ls' hW hS (lh_st2 h' ho (fun w h => by cases h; rfl) (fun w h => by cases h) (fun j w hj hj2 h => ?_))
  iterate 7 (rcases j with _ | j; (first | exact absurd rfl hj | exact h | exact absurd rfl hj2))
  exact h)
theorem g_istore_6 {e0 e1 e2 e3 e4 e5 e6 : Option Value} {x : Int32} {t : List (Option Value)} (C : CX E cc own lev) (d : decode cc pc = .ok (.istore 6, 2)) (hq : pc + 2 = q) (hn : 6 < eN E) (ho : okst (e0 :: e1 :: e2 :: e3 :: e4 :: e5 :: e6 :: t) 6 = true) (k : G E cl sl ad dm a b r q (e0 :: e1 :: e2 :: e3 :: e4 :: e5 :: some (.int x) :: t) rest) : G E cl sl ad dm a b r pc (e0 :: e1 :: e2 :: e3 :: e4 :: e5 :: e6 :: t) (.int x :: rest) := fun H L ls hW hS hl => lv_istore C.1 C.2.1 d hl hn rfl (fun ls' h' => by
  subst hq
  refine k H L ls' hW hS (lh_st h' ho (fun w h => by cases h; rfl) (fun j w hj h => ?_))
  iterate 7 (rcases j with _ | j; (first | exact absurd rfl hj | exact h | exact absurd rfl hj2))
  exact h)
theorem g_astore_6 {e0 e1 e2 e3 e4 e5 e6 : Option Value} {x : Nat} {t : List (Option Value)} (C : CX E cc own lev) (d : decode cc pc = .ok (.astore 6, 2)) (hq : pc + 2 = q) (hn : 6 < eN E) (ho : okst (e0 :: e1 :: e2 :: e3 :: e4 :: e5 :: e6 :: t) 6 = true) (k : G E cl sl ad dm a b r q (e0 :: e1 :: e2 :: e3 :: e4 :: e5 :: some (.ref x) :: t) rest) : G E cl sl ad dm a b r pc (e0 :: e1 :: e2 :: e3 :: e4 :: e5 :: e6 :: t) (.ref x :: rest) := fun H L ls hW hS hl => lv_astore C.1 C.2.1 d hl hn rfl (fun ls' h' => by
  subst hq
  refine k H L ls' hW hS (lh_st h' ho (fun w h => by cases h; rfl) (fun j w hj h => ?_))
  iterate 7 (rcases j with _ | j; (first | exact absurd rfl hj | exact h | exact absurd rfl hj2))
  exact h)
theorem g_lstore_6 {e0 e1 e2 e3 e4 e5 e6 : Option Value} {f : Option Value} {x : Int64} {t : List (Option Value)} (C : CX E cc own lev) (d : decode cc pc = .ok (.lstore 6, 2)) (hq : pc + 2 = q) (hn : 7 < eN E) (ho : okst (e0 :: e1 :: e2 :: e3 :: e4 :: e5 :: e6 :: f :: t) 6 = true) (k : G E cl sl ad dm a b r q (e0 :: e1 :: e2 :: e3 :: e4 :: e5 :: some (.long x) :: none :: t) rest) : G E cl sl ad dm a b r pc (e0 :: e1 :: e2 :: e3 :: e4 :: e5 :: e6 :: f :: t) (.long x :: rest) := fun H L ls hW hS hl => lv_lstore C.1 C.2.1 d hl hn rfl (fun ls' h' => by
  subst hq
  refine k H L ls' hW hS (lh_st2 h' ho (fun w h => by cases h; rfl) (fun w h => by cases h) (fun j w hj hj2 h => ?_))
  iterate 8 (rcases j with _ | j; (first | exact absurd rfl hj | exact h | exact absurd rfl hj2))
  exact h)
theorem g_istore_7 {e0 e1 e2 e3 e4 e5 e6 e7 : Option Value} {x : Int32} {t : List (Option Value)} (C : CX E cc own lev) (d : decode cc pc = .ok (.istore 7, 2)) (hq : pc + 2 = q) (hn : 7 < eN E) (ho : okst (e0 :: e1 :: e2 :: e3 :: e4 :: e5 :: e6 :: e7 :: t) 7 = true) (k : G E cl sl ad dm a b r q (e0 :: e1 :: e2 :: e3 :: e4 :: e5 :: e6 :: some (.int x) :: t) rest) : G E cl sl ad dm a b r pc (e0 :: e1 :: e2 :: e3 :: e4 :: e5 :: e6 :: e7 :: t) (.int x :: rest) := fun H L ls hW hS hl => lv_istore C.1 C.2.1 d hl hn rfl (fun ls' h' => by
  subst hq
  refine k H L ls' hW hS (lh_st h' ho (fun w h => by cases h; rfl) (fun j w hj h => ?_))
  iterate 8 (rcases j with _ | j; (first | exact absurd rfl hj | exact h | exact absurd rfl hj2))
  exact h)
theorem g_astore_7 {e0 e1 e2 e3 e4 e5 e6 e7 : Option Value} {x : Nat} {t : List (Option Value)} (C : CX E cc own lev) (d : decode cc pc = .ok (.astore 7, 2)) (hq : pc + 2 = q) (hn : 7 < eN E) (ho : okst (e0 :: e1 :: e2 :: e3 :: e4 :: e5 :: e6 :: e7 :: t) 7 = true) (k : G E cl sl ad dm a b r q (e0 :: e1 :: e2 :: e3 :: e4 :: e5 :: e6 :: some (.ref x) :: t) rest) : G E cl sl ad dm a b r pc (e0 :: e1 :: e2 :: e3 :: e4 :: e5 :: e6 :: e7 :: t) (.ref x :: rest) := fun H L ls hW hS hl => lv_astore C.1 C.2.1 d hl hn rfl (fun ls' h' => by
  subst hq
  refine k H L ls' hW hS (lh_st h' ho (fun w h => by cases h; rfl) (fun j w hj h => ?_))
  iterate 8 (rcases j with _ | j; (first | exact absurd rfl hj | exact h | exact absurd rfl hj2))
  exact h)
theorem g_lstore_7 {e0 e1 e2 e3 e4 e5 e6 e7 : Option Value} {f : Option Value} {x : Int64} {t : List (Option Value)} (C : CX E cc own lev) (d : decode cc pc = .ok (.lstore 7, 2)) (hq : pc + 2 = q) (hn : 8 < eN E) (ho : okst (e0 :: e1 :: e2 :: e3 :: e4 :: e5 :: e6 :: e7 :: f :: t) 7 = true) (k : G E cl sl ad dm a b r q (e0 :: e1 :: e2 :: e3 :: e4 :: e5 :: e6 :: some (.long x) :: none :: t) rest) : G E cl sl ad dm a b r pc (e0 :: e1 :: e2 :: e3 :: e4 :: e5 :: e6 :: e7 :: f :: t) (.long x :: rest) := fun H L ls hW hS hl => lv_lstore C.1 C.2.1 d hl hn rfl (fun ls' h' => by
  subst hq
  refine k H L ls' hW hS (lh_st2 h' ho (fun w h => by cases h; rfl) (fun w h => by cases h) (fun j w hj hj2 h => ?_))
  iterate 9 (rcases j with _ | j; (first | exact absurd rfl hj | exact h | exact absurd rfl hj2))
  exact h)
theorem g_istore_8 {e0 e1 e2 e3 e4 e5 e6 e7 e8 : Option Value} {x : Int32} {t : List (Option Value)} (C : CX E cc own lev) (d : decode cc pc = .ok (.istore 8, 2)) (hq : pc + 2 = q) (hn : 8 < eN E) (ho : okst (e0 :: e1 :: e2 :: e3 :: e4 :: e5 :: e6 :: e7 :: e8 :: t) 8 = true) (k : G E cl sl ad dm a b r q (e0 :: e1 :: e2 :: e3 :: e4 :: e5 :: e6 :: e7 :: some (.int x) :: t) rest) : G E cl sl ad dm a b r pc (e0 :: e1 :: e2 :: e3 :: e4 :: e5 :: e6 :: e7 :: e8 :: t) (.int x :: rest) := fun H L ls hW hS hl => lv_istore C.1 C.2.1 d hl hn rfl (fun ls' h' => by
  subst hq
  refine k H L ls' hW hS (lh_st h' ho (fun w h => by cases h; rfl) (fun j w hj h => ?_))
  iterate 9 (rcases j with _ | j; (first | exact absurd rfl hj | exact h | exact absurd rfl hj2))
  exact h)
theorem g_astore_8 {e0 e1 e2 e3 e4 e5 e6 e7 e8 : Option Value} {x : Nat} {t : List (Option Value)} (C : CX E cc own lev) (d : decode cc pc = .ok (.astore 8, 2)) (hq : pc + 2 = q) (hn : 8 < eN E) (ho : okst (e0 :: e1 :: e2 :: e3 :: e4 :: e5 :: e6 :: e7 :: e8 :: t) 8 = true) (k : G E cl sl ad dm a b r q (e0 :: e1 :: e2 :: e3 :: e4 :: e5 :: e6 :: e7 :: some (.ref x) :: t) rest) : G E cl sl ad dm a b r pc (e0 :: e1 :: e2 :: e3 :: e4 :: e5 :: e6 :: e7 :: e8 :: t) (.ref x :: rest) := fun H L ls hW hS hl => lv_astore C.1 C.2.1 d hl hn rfl (fun ls' h' => by
  subst hq
  refine k H L ls' hW hS (lh_st h' ho (fun w h => by cases h; rfl) (fun j w hj h => ?_))
  iterate 9 (rcases j with _ | j; (first | exact absurd rfl hj | exact h | exact absurd rfl hj2))
  exact h)
theorem g_lstore_8 {e0 e1 e2 e3 e4 e5 e6 e7 e8 : Option Value} {f : Option Value} {x : Int64} {t : List (Option Value)} (C : CX E cc own lev) (d : decode cc pc = .ok (.lstore 8, 2)) (hq : pc + 2 = q) (hn : 9 < eN E) (ho : okst (e0 :: e1 :: e2 :: e3 :: e4 :: e5 :: e6 :: e7 :: e8 :: f :: t) 8 = true) (k : G E cl sl ad dm a b r q (e0 :: e1 :: e2 :: e3 :: e4 :: e5 :: e6 :: e7 :: some (.long x) :: none :: t) rest) : G E cl sl ad dm a b r pc (e0 :: e1 :: e2 :: e3 :: e4 :: e5 :: e6 :: e7 :: e8 :: f :: t) (.long x :: rest) := fun H L ls hW hS hl => lv_lstore C.1 C.2.1 d hl hn rfl (fun ls' h' => by
  subst hq
  refine k H L ls' hW hS (lh_st2 h' ho (fun w h => by cases h; rfl) (fun w h => by cases h) (fun j w hj hj2 h => ?_))
  iterate 10 (rcases j with _ | j; (first | exact absurd rfl hj | exact h | exact absurd rfl hj2))
  exact h)
theorem g_istore_9 {e0 e1 e2 e3 e4 e5 e6 e7 e8 e9 : Option Value} {x : Int32} {t : List (Option Value)} (C : CX E cc own lev) (d : decode cc pc = .ok (.istore 9, 2)) (hq : pc + 2 = q) (hn : 9 < eN E) (ho : okst (e0 :: e1 :: e2 :: e3 :: e4 :: e5 :: e6 :: e7 :: e8 :: e9 :: t) 9 = true) (k : G E cl sl ad dm a b r q (e0 :: e1 :: e2 :: e3 :: e4 :: e5 :: e6 :: e7 :: e8 :: some (.int x) :: t) rest) : G E cl sl ad dm a b r pc (e0 :: e1 :: e2 :: e3 :: e4 :: e5 :: e6 :: e7 :: e8 :: e9 :: t) (.int x :: rest) := fun H L ls hW hS hl => lv_istore C.1 C.2.1 d hl hn rfl (fun ls' h' => by
  subst hq
  refine k H L ls' hW hS (lh_st h' ho (fun w h => by cases h; rfl) (fun j w hj h => ?_))
  iterate 10 (rcases j with _ | j; (first | exact absurd rfl hj | exact h | exact absurd rfl hj2))
  exact h)
theorem g_astore_9 {e0 e1 e2 e3 e4 e5 e6 e7 e8 e9 : Option Value} {x : Nat} {t : List (Option Value)} (C : CX E cc own lev) (d : decode cc pc = .ok (.astore 9, 2)) (hq : pc + 2 = q) (hn : 9 < eN E) (ho : okst (e0 :: e1 :: e2 :: e3 :: e4 :: e5 :: e6 :: e7 :: e8 :: e9 :: t) 9 = true) (k : G E cl sl ad dm a b r q (e0 :: e1 :: e2 :: e3 :: e4 :: e5 :: e6 :: e7 :: e8 :: some (.ref x) :: t) rest) : G E cl sl ad dm a b r pc (e0 :: e1 :: e2 :: e3 :: e4 :: e5 :: e6 :: e7 :: e8 :: e9 :: t) (.ref x :: rest) := fun H L ls hW hS hl => lv_astore C.1 C.2.1 d hl hn rfl (fun ls' h' => by
  subst hq
  refine k H L ls' hW hS (lh_st h' ho (fun w h => by cases h; rfl) (fun j w hj h => ?_))
  iterate 10 (rcases j with _ | j; (first | exact absurd rfl hj | exact h | exact absurd rfl hj2))
  exact h)
theorem g_lstore_9 {e0 e1 e2 e3 e4 e5 e6 e7 e8 e9 : Option Value} {f : Option Value} {x : Int64} {t : List (Option Value)} (C : CX E cc own lev) (d : decode cc pc = .ok (.lstore 9, 2)) (hq : pc + 2 = q) (hn : 10 < eN E) (ho : okst (e0 :: e1 :: e2 :: e3 :: e4 :: e5 :: e6 :: e7 :: e8 :: e9 :: f :: t) 9 = true) (k : G E cl sl ad dm a b r q (e0 :: e1 :: e2 :: e3 :: e4 :: e5 :: e6 :: e7 :: e8 :: some (.long x) :: none :: t) rest) : G E cl sl ad dm a b r pc (e0 :: e1 :: e2 :: e3 :: e4 :: e5 :: e6 :: e7 :: e8 :: e9 :: f :: t) (.long x :: rest) := fun H L ls hW hS hl => lv_lstore C.1 C.2.1 d hl hn rfl (fun ls' h' => by
  subst hq
  refine k H L ls' hW hS (lh_st2 h' ho (fun w h => by cases h; rfl) (fun w h => by cases h) (fun j w hj hj2 h => ?_))
  iterate 11 (rcases j with _ | j; (first | exact absurd rfl hj | exact h | exact absurd rfl hj2))
  exact h)
theorem g_istore_10 {e0 e1 e2 e3 e4 e5 e6 e7 e8 e9 e10 : Option Value} {x : Int32} {t : List (Option Value)} (C : CX E cc own lev) (d : decode cc pc = .ok (.istore 10, 2)) (hq : pc + 2 = q) (hn : 10 < eN E) (ho : okst (e0 :: e1 :: e2 :: e3 :: e4 :: e5 :: e6 :: e7 :: e8 :: e9 :: e10 :: t) 10 = true) (k : G E cl sl ad dm a b r q (e0 :: e1 :: e2 :: e3 :: e4 :: e5 :: e6 :: e7 :: e8 :: e9 :: some (.int x) :: t) rest) : G E cl sl ad dm a b r pc (e0 :: e1 :: e2 :: e3 :: e4 :: e5 :: e6 :: e7 :: e8 :: e9 :: e10 :: t) (.int x :: rest) := fun H L ls hW hS hl => lv_istore C.1 C.2.1 d hl hn rfl (fun ls' h' => by
  subst hq
  refine k H L ls' hW hS (lh_st h' ho (fun w h => by cases h; rfl) (fun j w hj h => ?_))
  iterate 11 (rcases j with _ | j; (first | exact absurd rfl hj | exact h | exact absurd rfl hj2))
  exact h)
theorem g_astore_10 {e0 e1 e2 e3 e4 e5 e6 e7 e8 e9 e10 : Option Value} {x : Nat} {t : List (Option Value)} (C : CX E cc own lev) (d : decode cc pc = .ok (.astore 10, 2)) (hq : pc + 2 = q) (hn : 10 < eN E) (ho : okst (e0 :: e1 :: e2 :: e3 :: e4 :: e5 :: e6 :: e7 :: e8 :: e9 :: e10 :: t) 10 = true) (k : G E cl sl ad dm a b r q (e0 :: e1 :: e2 :: e3 :: e4 :: e5 :: e6 :: e7 :: e8 :: e9 :: some (.ref x) :: t) rest) : G E cl sl ad dm a b r pc (e0 :: e1 :: e2 :: e3 :: e4 :: e5 :: e6 :: e7 :: e8 :: e9 :: e10 :: t) (.ref x :: rest) := fun H L ls hW hS hl => lv_astore C.1 C.2.1 d hl hn rfl (fun ls' h' => by
  subst hq
  refine k H L ls' hW hS (lh_st h' ho (fun w h => by cases h; rfl) (fun j w hj h => ?_))
  iterate 11 (rcases j with _ | j; (first | exact absurd rfl hj | exact h | exact absurd rfl hj2))
  exact h)
theorem g_lstore_10 {e0 e1 e2 e3 e4 e5 e6 e7 e8 e9 e10 : Option Value} {f : Option Value} {x : Int64} {t : List (Option Value)} (C : CX E cc own lev) (d : decode cc pc = .ok (.lstore 10, 2)) (hq : pc + 2 = q) (hn : 11 < eN E) (ho : okst (e0 :: e1 :: e2 :: e3 :: e4 :: e5 :: e6 :: e7 :: e8 :: e9 :: e10 :: f :: t) 10 = true) (k : G E cl sl ad dm a b r q (e0 :: e1 :: e2 :: e3 :: e4 :: e5 :: e6 :: e7 :: e8 :: e9 :: some (.long x) :: none :: t) rest) : G E cl sl ad dm a b r pc (e0 :: e1 :: e2 :: e3 :: e4 :: e5 :: e6 :: e7 :: e8 :: e9 :: e10 :: f :: t) (.long x :: rest) := fun H L ls hW hS hl => lv_lstore C.1 C.2.1 d hl hn rfl (fun ls' h' => by
  subst hq
  refine k H L ls' hW hS (lh_st2 h' ho (fun w h => by cases h; rfl) (fun w h => by cases h) (fun j w hj hj2 h => ?_))
  iterate 12 (rcases j with _ | j; (first | exact absurd rfl hj | exact h | exact absurd rfl hj2))
  exact h)
theorem g_istore_11 {e0 e1 e2 e3 e4 e5 e6 e7 e8 e9 e10 e11 : Option Value} {x : Int32} {t : List (Option Value)} (C : CX E cc own lev) (d : decode cc pc = .ok (.istore 11, 2)) (hq : pc + 2 = q) (hn : 11 < eN E) (ho : okst (e0 :: e1 :: e2 :: e3 :: e4 :: e5 :: e6 :: e7 :: e8 :: e9 :: e10 :: e11 :: t) 11 = true) (k : G E cl sl ad dm a b r q (e0 :: e1 :: e2 :: e3 :: e4 :: e5 :: e6 :: e7 :: e8 :: e9 :: e10 :: some (.int x) :: t) rest) : G E cl sl ad dm a b r pc (e0 :: e1 :: e2 :: e3 :: e4 :: e5 :: e6 :: e7 :: e8 :: e9 :: e10 :: e11 :: t) (.int x :: rest) := fun H L ls hW hS hl => lv_istore C.1 C.2.1 d hl hn rfl (fun ls' h' => by
  subst hq
  refine k H L ls' hW hS (lh_st h' ho (fun w h => by cases h; rfl) (fun j w hj h => ?_))
  iterate 12 (rcases j with _ | j; (first | exact absurd rfl hj | exact h | exact absurd rfl hj2))
  exact h)
theorem g_astore_11 {e0 e1 e2 e3 e4 e5 e6 e7 e8 e9 e10 e11 : Option Value} {x : Nat} {t : List (Option Value)} (C : CX E cc own lev) (d : decode cc pc = .ok (.astore 11, 2)) (hq : pc + 2 = q) (hn : 11 < eN E) (ho : okst (e0 :: e1 :: e2 :: e3 :: e4 :: e5 :: e6 :: e7 :: e8 :: e9 :: e10 :: e11 :: t) 11 = true) (k : G E cl sl ad dm a b r q (e0 :: e1 :: e2 :: e3 :: e4 :: e5 :: e6 :: e7 :: e8 :: e9 :: e10 :: some (.ref x) :: t) rest) : G E cl sl ad dm a b r pc (e0 :: e1 :: e2 :: e3 :: e4 :: e5 :: e6 :: e7 :: e8 :: e9 :: e10 :: e11 :: t) (.ref x :: rest) := fun H L ls hW hS hl => lv_astore C.1 C.2.1 d hl hn rfl (fun ls' h' => by
  subst hq
  refine k H L ls' hW hS (lh_st h' ho (fun w h => by cases h; rfl) (fun j w hj h => ?_))
  iterate 12 (rcases j with _ | j; (first | exact absurd rfl hj | exact h | exact absurd rfl hj2))
  exact h)
theorem g_lstore_11 {e0 e1 e2 e3 e4 e5 e6 e7 e8 e9 e10 e11 : Option Value} {f : Option Value} {x : Int64} {t : List (Option Value)} (C : CX E cc own lev) (d : decode cc pc = .ok (.lstore 11, 2)) (hq : pc + 2 = q) (hn : 12 < eN E) (ho : okst (e0 :: e1 :: e2 :: e3 :: e4 :: e5 :: e6 :: e7 :: e8 :: e9 :: e10 :: e11 :: f :: t) 11 = true) (k : G E cl sl ad dm a b r q (e0 :: e1 :: e2 :: e3 :: e4 :: e5 :: e6 :: e7 :: e8 :: e9 :: e10 :: some (.long x) :: none :: t) rest) : G E cl sl ad dm a b r pc (e0 :: e1 :: e2 :: e3 :: e4 :: e5 :: e6 :: e7 :: e8 :: e9 :: e10 :: e11 :: f :: t) (.long x :: rest) := fun H L ls hW hS hl => lv_lstore C.1 C.2.1 d hl hn rfl (fun ls' h' => by
  subst hq
  refine k H L ls' hW hS (lh_st2 h' ho (fun w h => by cases h; rfl) (fun w h => by cases h) (fun j w hj hj2 h => ?_))
  iterate 13 (rcases j with _ | j; (first | exact absurd rfl hj | exact h | exact absurd rfl hj2))
  exact h)
theorem g_istore_12 {e0 e1 e2 e3 e4 e5 e6 e7 e8 e9 e10 e11 e12 : Option Value} {x : Int32} {t : List (Option Value)} (C : CX E cc own lev) (d : decode cc pc = .ok (.istore 12, 2)) (hq : pc + 2 = q) (hn : 12 < eN E) (ho : okst (e0 :: e1 :: e2 :: e3 :: e4 :: e5 :: e6 :: e7 :: e8 :: e9 :: e10 :: e11 :: e12 :: t) 12 = true) (k : G E cl sl ad dm a b r q (e0 :: e1 :: e2 :: e3 :: e4 :: e5 :: e6 :: e7 :: e8 :: e9 :: e10 :: e11 :: some (.int x) :: t) rest) : G E cl sl ad dm a b r pc (e0 :: e1 :: e2 :: e3 :: e4 :: e5 :: e6 :: e7 :: e8 :: e9 :: e10 :: e11 :: e12 :: t) (.int x :: rest) := fun H L ls hW hS hl => lv_istore C.1 C.2.1 d hl hn rfl (fun ls' h' => by
  subst hq
  refine k H L ls' hW hS (lh_st h' ho (fun w h => by cases h; rfl) (fun j w hj h => ?_))
  iterate 13 (rcases j with _ | j; (first | exact absurd rfl hj | exact h | exact absurd rfl hj2))
  exact h)
theorem g_astore_12 {e0 e1 e2 e3 e4 e5 e6 e7 e8 e9 e10 e11 e12 : Option Value} {x : Nat} {t : List (Option Value)} (C : CX E cc own lev) (d : decode cc pc = .ok (.astore 12, 2)) (hq : pc + 2 = q) (hn : 12 < eN E) (ho : okst (e0 :: e1 :: e2 :: e3 :: e4 :: e5 :: e6 :: e7 :: e8 :: e9 :: e10 :: e11 :: e12 :: t) 12 = true) (k : G E cl sl ad dm a b r q (e0 :: e1 :: e2 :: e3 :: e4 :: e5 :: e6 :: e7 :: e8 :: e9 :: e10 :: e11 :: some (.ref x) :: t) rest) : G E cl sl ad dm a b r pc (e0 :: e1 :: e2 :: e3 :: e4 :: e5 :: e6 :: e7 :: e8 :: e9 :: e10 :: e11 :: e12 :: t) (.ref x :: rest) := fun H L ls hW hS hl => lv_astore C.1 C.2.1 d hl hn rfl (fun ls' h' => by
  subst hq
  refine k H L ls' hW hS (lh_st h' ho (fun w h => by cases h; rfl) (fun j w hj h => ?_))
  iterate 13 (rcases j with _ | j; (first | exact absurd rfl hj | exact h | exact absurd rfl hj2))
  exact h)
theorem g_lstore_12 {e0 e1 e2 e3 e4 e5 e6 e7 e8 e9 e10 e11 e12 : Option Value} {f : Option Value} {x : Int64} {t : List (Option Value)} (C : CX E cc own lev) (d : decode cc pc = .ok (.lstore 12, 2)) (hq : pc + 2 = q) (hn : 13 < eN E) (ho : okst (e0 :: e1 :: e2 :: e3 :: e4 :: e5 :: e6 :: e7 :: e8 :: e9 :: e10 :: e11 :: e12 :: f :: t) 12 = true) (k : G E cl sl ad dm a b r q (e0 :: e1 :: e2 :: e3 :: e4 :: e5 :: e6 :: e7 :: e8 :: e9 :: e10 :: e11 :: some (.long x) :: none :: t) rest) : G E cl sl ad dm a b r pc (e0 :: e1 :: e2 :: e3 :: e4 :: e5 :: e6 :: e7 :: e8 :: e9 :: e10 :: e11 :: e12 :: f :: t) (.long x :: rest) := fun H L ls hW hS hl => lv_lstore C.1 C.2.1 d hl hn rfl (fun ls' h' => by
  subst hq
  refine k H L ls' hW hS (lh_st2 h' ho (fun w h => by cases h; rfl) (fun w h => by cases h) (fun j w hj hj2 h => ?_))
  iterate 14 (rcases j with _ | j; (first | exact absurd rfl hj | exact h | exact absurd rfl hj2))
  exact h)
theorem g_astore_1N {e0 e1 : Option Value} {t : List (Option Value)} (C : CX E cc own lev) (d : decode cc pc = .ok (.astore_n 1, 1)) (hq : pc + 1 = q) (hn : 1 < eN E) (ho : okst (e0 :: e1 :: t) 1 = true) (k : G E cl sl ad dm a b r q (e0 :: some .null :: t) rest) : G E cl sl ad dm a b r pc (e0 :: e1 :: t) (.null :: rest) := fun H L ls hW hS hl => lv_astore_nN C.1 C.2.1 d rfl hl hn rfl (fun ls' h' => by
  subst hq
  refine k H L ls' hW hS (lh_st h' ho (fun w h => by cases h; rfl) (fun j w hj h => ?_))
  iterate 2 (rcases j with _ | j; (first | exact absurd rfl hj | exact h))
  exact h)
theorem g_astore_2N {e0 e1 e2 : Option Value} {t : List (Option Value)} (C : CX E cc own lev) (d : decode cc pc = .ok (.astore_n 2, 1)) (hq : pc + 1 = q) (hn : 2 < eN E) (ho : okst (e0 :: e1 :: e2 :: t) 2 = true) (k : G E cl sl ad dm a b r q (e0 :: e1 :: some .null :: t) rest) : G E cl sl ad dm a b r pc (e0 :: e1 :: e2 :: t) (.null :: rest) := fun H L ls hW hS hl => lv_astore_nN C.1 C.2.1 d rfl hl hn rfl (fun ls' h' => by
  subst hq
  refine k H L ls' hW hS (lh_st h' ho (fun w h => by cases h; rfl) (fun j w hj h => ?_))
  iterate 3 (rcases j with _ | j; (first | exact absurd rfl hj | exact h))
  exact h)
theorem g_astore_3N {e0 e1 e2 e3 : Option Value} {t : List (Option Value)} (C : CX E cc own lev) (d : decode cc pc = .ok (.astore_n 3, 1)) (hq : pc + 1 = q) (hn : 3 < eN E) (ho : okst (e0 :: e1 :: e2 :: e3 :: t) 3 = true) (k : G E cl sl ad dm a b r q (e0 :: e1 :: e2 :: some .null :: t) rest) : G E cl sl ad dm a b r pc (e0 :: e1 :: e2 :: e3 :: t) (.null :: rest) := fun H L ls hW hS hl => lv_astore_nN C.1 C.2.1 d rfl hl hn rfl (fun ls' h' => by
  subst hq
  refine k H L ls' hW hS (lh_st h' ho (fun w h => by cases h; rfl) (fun j w hj h => ?_))
  iterate 4 (rcases j with _ | j; (first | exact absurd rfl hj | exact h))
  exact h)
theorem g_astore_4N {e0 e1 e2 e3 e4 : Option Value} {t : List (Option Value)} (C : CX E cc own lev) (d : decode cc pc = .ok (.astore 4, 2)) (hq : pc + 2 = q) (hn : 4 < eN E) (ho : okst (e0 :: e1 :: e2 :: e3 :: e4 :: t) 4 = true) (k : G E cl sl ad dm a b r q (e0 :: e1 :: e2 :: e3 :: some .null :: t) rest) : G E cl sl ad dm a b r pc (e0 :: e1 :: e2 :: e3 :: e4 :: t) (.null :: rest) := fun H L ls hW hS hl => lv_astoreN C.1 C.2.1 d hl hn rfl (fun ls' h' => by
  subst hq
  refine k H L ls' hW hS (lh_st h' ho (fun w h => by cases h; rfl) (fun j w hj h => ?_))
  iterate 5 (rcases j with _ | j; (first | exact absurd rfl hj | exact h))
  exact h)
theorem g_astore_5N {e0 e1 e2 e3 e4 e5 : Option Value} {t : List (Option Value)} (C : CX E cc own lev) (d : decode cc pc = .ok (.astore 5, 2)) (hq : pc + 2 = q) (hn : 5 < eN E) (ho : okst (e0 :: e1 :: e2 :: e3 :: e4 :: e5 :: t) 5 = true) (k : G E cl sl ad dm a b r q (e0 :: e1 :: e2 :: e3 :: e4 :: some .null :: t) rest) : G E cl sl ad dm a b r pc (e0 :: e1 :: e2 :: e3 :: e4 :: e5 :: t) (.null :: rest) := fun H L ls hW hS hl => lv_astoreN C.1 C.2.1 d hl hn rfl (fun ls' h' => by
  subst hq
  refine k H L ls' hW hS (lh_st h' ho (fun w h => by cases h; rfl) (fun j w hj h => ?_))
  iterate 6 (rcases j with _ | j; (first | exact absurd rfl hj | exact h))
  exact h)
theorem g_astore_6N {e0 e1 e2 e3 e4 e5 e6 : Option Value} {t : List (Option Value)} (C : CX E cc own lev) (d : decode cc pc = .ok (.astore 6, 2)) (hq : pc + 2 = q) (hn : 6 < eN E) (ho : okst (e0 :: e1 :: e2 :: e3 :: e4 :: e5 :: e6 :: t) 6 = true) (k : G E cl sl ad dm a b r q (e0 :: e1 :: e2 :: e3 :: e4 :: e5 :: some .null :: t) rest) : G E cl sl ad dm a b r pc (e0 :: e1 :: e2 :: e3 :: e4 :: e5 :: e6 :: t) (.null :: rest) := fun H L ls hW hS hl => lv_astoreN C.1 C.2.1 d hl hn rfl (fun ls' h' => by
  subst hq
  refine k H L ls' hW hS (lh_st h' ho (fun w h => by cases h; rfl) (fun j w hj h => ?_))
  iterate 7 (rcases j with _ | j; (first | exact absurd rfl hj | exact h))
  exact h)
theorem g_astore_7N {e0 e1 e2 e3 e4 e5 e6 e7 : Option Value} {t : List (Option Value)} (C : CX E cc own lev) (d : decode cc pc = .ok (.astore 7, 2)) (hq : pc + 2 = q) (hn : 7 < eN E) (ho : okst (e0 :: e1 :: e2 :: e3 :: e4 :: e5 :: e6 :: e7 :: t) 7 = true) (k : G E cl sl ad dm a b r q (e0 :: e1 :: e2 :: e3 :: e4 :: e5 :: e6 :: some .null :: t) rest) : G E cl sl ad dm a b r pc (e0 :: e1 :: e2 :: e3 :: e4 :: e5 :: e6 :: e7 :: t) (.null :: rest) := fun H L ls hW hS hl => lv_astoreN C.1 C.2.1 d hl hn rfl (fun ls' h' => by
  subst hq
  refine k H L ls' hW hS (lh_st h' ho (fun w h => by cases h; rfl) (fun j w hj h => ?_))
  iterate 8 (rcases j with _ | j; (first | exact absurd rfl hj | exact h))
  exact h)
theorem g_astore_8N {e0 e1 e2 e3 e4 e5 e6 e7 e8 : Option Value} {t : List (Option Value)} (C : CX E cc own lev) (d : decode cc pc = .ok (.astore 8, 2)) (hq : pc + 2 = q) (hn : 8 < eN E) (ho : okst (e0 :: e1 :: e2 :: e3 :: e4 :: e5 :: e6 :: e7 :: e8 :: t) 8 = true) (k : G E cl sl ad dm a b r q (e0 :: e1 :: e2 :: e3 :: e4 :: e5 :: e6 :: e7 :: some .null :: t) rest) : G E cl sl ad dm a b r pc (e0 :: e1 :: e2 :: e3 :: e4 :: e5 :: e6 :: e7 :: e8 :: t) (.null :: rest) := fun H L ls hW hS hl => lv_astoreN C.1 C.2.1 d hl hn rfl (fun ls' h' => by
  subst hq
  refine k H L ls' hW hS (lh_st h' ho (fun w h => by cases h; rfl) (fun j w hj h => ?_))
  iterate 9 (rcases j with _ | j; (first | exact absurd rfl hj | exact h))
  exact h)
theorem g_astore_9N {e0 e1 e2 e3 e4 e5 e6 e7 e8 e9 : Option Value} {t : List (Option Value)} (C : CX E cc own lev) (d : decode cc pc = .ok (.astore 9, 2)) (hq : pc + 2 = q) (hn : 9 < eN E) (ho : okst (e0 :: e1 :: e2 :: e3 :: e4 :: e5 :: e6 :: e7 :: e8 :: e9 :: t) 9 = true) (k : G E cl sl ad dm a b r q (e0 :: e1 :: e2 :: e3 :: e4 :: e5 :: e6 :: e7 :: e8 :: some .null :: t) rest) : G E cl sl ad dm a b r pc (e0 :: e1 :: e2 :: e3 :: e4 :: e5 :: e6 :: e7 :: e8 :: e9 :: t) (.null :: rest) := fun H L ls hW hS hl => lv_astoreN C.1 C.2.1 d hl hn rfl (fun ls' h' => by
  subst hq
  refine k H L ls' hW hS (lh_st h' ho (fun w h => by cases h; rfl) (fun j w hj h => ?_))
  iterate 10 (rcases j with _ | j; (first | exact absurd rfl hj | exact h))
  exact h)
theorem g_astore_10N {e0 e1 e2 e3 e4 e5 e6 e7 e8 e9 e10 : Option Value} {t : List (Option Value)} (C : CX E cc own lev) (d : decode cc pc = .ok (.astore 10, 2)) (hq : pc + 2 = q) (hn : 10 < eN E) (ho : okst (e0 :: e1 :: e2 :: e3 :: e4 :: e5 :: e6 :: e7 :: e8 :: e9 :: e10 :: t) 10 = true) (k : G E cl sl ad dm a b r q (e0 :: e1 :: e2 :: e3 :: e4 :: e5 :: e6 :: e7 :: e8 :: e9 :: some .null :: t) rest) : G E cl sl ad dm a b r pc (e0 :: e1 :: e2 :: e3 :: e4 :: e5 :: e6 :: e7 :: e8 :: e9 :: e10 :: t) (.null :: rest) := fun H L ls hW hS hl => lv_astoreN C.1 C.2.1 d hl hn rfl (fun ls' h' => by
  subst hq
  refine k H L ls' hW hS (lh_st h' ho (fun w h => by cases h; rfl) (fun j w hj h => ?_))
  iterate 11 (rcases j with _ | j; (first | exact absurd rfl hj | exact h))
  exact h)
theorem g_astore_11N {e0 e1 e2 e3 e4 e5 e6 e7 e8 e9 e10 e11 : Option Value} {t : List (Option Value)} (C : CX E cc own lev) (d : decode cc pc = .ok (.astore 11, 2)) (hq : pc + 2 = q) (hn : 11 < eN E) (ho : okst (e0 :: e1 :: e2 :: e3 :: e4 :: e5 :: e6 :: e7 :: e8 :: e9 :: e10 :: e11 :: t) 11 = true) (k : G E cl sl ad dm a b r q (e0 :: e1 :: e2 :: e3 :: e4 :: e5 :: e6 :: e7 :: e8 :: e9 :: e10 :: some .null :: t) rest) : G E cl sl ad dm a b r pc (e0 :: e1 :: e2 :: e3 :: e4 :: e5 :: e6 :: e7 :: e8 :: e9 :: e10 :: e11 :: t) (.null :: rest) := fun H L ls hW hS hl => lv_astoreN C.1 C.2.1 d hl hn rfl (fun ls' h' => by
  subst hq
  refine k H L ls' hW hS (lh_st h' ho (fun w h => by cases h; rfl) (fun j w hj h => ?_))
  iterate 12 (rcases j with _ | j; (first | exact absurd rfl hj | exact h))
  exact h)
theorem g_astore_12N {e0 e1 e2 e3 e4 e5 e6 e7 e8 e9 e10 e11 e12 : Option Value} {t : List (Option Value)} (C : CX E cc own lev) (d : decode cc pc = .ok (.astore 12, 2)) (hq : pc + 2 = q) (hn : 12 < eN E) (ho : okst (e0 :: e1 :: e2 :: e3 :: e4 :: e5 :: e6 :: e7 :: e8 :: e9 :: e10 :: e11 :: e12 :: t) 12 = true) (k : G E cl sl ad dm a b r q (e0 :: e1 :: e2 :: e3 :: e4 :: e5 :: e6 :: e7 :: e8 :: e9 :: e10 :: e11 :: some .null :: t) rest) : G E cl sl ad dm a b r pc (e0 :: e1 :: e2 :: e3 :: e4 :: e5 :: e6 :: e7 :: e8 :: e9 :: e10 :: e11 :: e12 :: t) (.null :: rest) := fun H L ls hW hS hl => lv_astoreN C.1 C.2.1 d hl hn rfl (fun ls' h' => by
  subst hq
  refine k H L ls' hW hS (lh_st h' ho (fun w h => by cases h; rfl) (fun j w hj h => ?_))
  iterate 13 (rcases j with _ | j; (first | exact absurd rfl hj | exact h))
  exact h)
theorem g_iinc_1 {e0 : Option Value} {n : Int} {x v : Int32} {t : List (Option Value)} (C : CX E cc own lev) (d : decode cc pc = .ok (.iinc 1 n, 3)) (hq : pc + 3 = q) (hn : 1 < eN E) (hv : x + Int32.ofInt n = v) (k : G E cl sl ad dm a b r q (e0 :: some (.int v) :: t) rest) (ho : okst (e0 :: some (.int x) :: t) 1 = true := by rfl) : G E cl sl ad dm a b r pc (e0 :: some (.int x) :: t) rest := fun H L ls hW hS hl => by
  have hm := las_mem (e0 :: some (.int x) :: t) 0 1 (.int x) rfl
  rw [Nat.zero_add] at hm
  obtain ⟨kk, hkk⟩ := List.getElem?_of_mem hm
  exact lv_iinc C.1 C.2.1 d hl hkk hv hn rfl (fun ls' h' => by
    subst hq
    refine k H L ls' hW hS (lh_st h' ho (fun w h => by cases h; rfl) (fun j w hj h => ?_))
    iterate 2 (rcases j with _ | j; (first | exact absurd rfl hj | exact h))
    exact h)
theorem g_iinc_2 {e0 e1 : Option Value} {n : Int} {x v : Int32} {t : List (Option Value)} (C : CX E cc own lev) (d : decode cc pc = .ok (.iinc 2 n, 3)) (hq : pc + 3 = q) (hn : 2 < eN E) (hv : x + Int32.ofInt n = v) (k : G E cl sl ad dm a b r q (e0 :: e1 :: some (.int v) :: t) rest) (ho : okst (e0 :: e1 :: some (.int x) :: t) 2 = true := by rfl) : G E cl sl ad dm a b r pc (e0 :: e1 :: some (.int x) :: t) rest := fun H L ls hW hS hl => by
  have hm := las_mem (e0 :: e1 :: some (.int x) :: t) 0 2 (.int x) rfl
  rw [Nat.zero_add] at hm
  obtain ⟨kk, hkk⟩ := List.getElem?_of_mem hm
  exact lv_iinc C.1 C.2.1 d hl hkk hv hn rfl (fun ls' h' => by
    subst hq
    refine k H L ls' hW hS (lh_st h' ho (fun w h => by cases h; rfl) (fun j w hj h => ?_))
    iterate 3 (rcases j with _ | j; (first | exact absurd rfl hj | exact h))
    exact h)
theorem g_iinc_3 {e0 e1 e2 : Option Value} {n : Int} {x v : Int32} {t : List (Option Value)} (C : CX E cc own lev) (d : decode cc pc = .ok (.iinc 3 n, 3)) (hq : pc + 3 = q) (hn : 3 < eN E) (hv : x + Int32.ofInt n = v) (k : G E cl sl ad dm a b r q (e0 :: e1 :: e2 :: some (.int v) :: t) rest) (ho : okst (e0 :: e1 :: e2 :: some (.int x) :: t) 3 = true := by rfl) : G E cl sl ad dm a b r pc (e0 :: e1 :: e2 :: some (.int x) :: t) rest := fun H L ls hW hS hl => by
  have hm := las_mem (e0 :: e1 :: e2 :: some (.int x) :: t) 0 3 (.int x) rfl
  rw [Nat.zero_add] at hm
  obtain ⟨kk, hkk⟩ := List.getElem?_of_mem hm
  exact lv_iinc C.1 C.2.1 d hl hkk hv hn rfl (fun ls' h' => by
    subst hq
    refine k H L ls' hW hS (lh_st h' ho (fun w h => by cases h; rfl) (fun j w hj h => ?_))
    iterate 4 (rcases j with _ | j; (first | exact absurd rfl hj | exact h))
    exact h)
theorem g_iinc_4 {e0 e1 e2 e3 : Option Value} {n : Int} {x v : Int32} {t : List (Option Value)} (C : CX E cc own lev) (d : decode cc pc = .ok (.iinc 4 n, 3)) (hq : pc + 3 = q) (hn : 4 < eN E) (hv : x + Int32.ofInt n = v) (k : G E cl sl ad dm a b r q (e0 :: e1 :: e2 :: e3 :: some (.int v) :: t) rest) (ho : okst (e0 :: e1 :: e2 :: e3 :: some (.int x) :: t) 4 = true := by rfl) : G E cl sl ad dm a b r pc (e0 :: e1 :: e2 :: e3 :: some (.int x) :: t) rest := fun H L ls hW hS hl => by
  have hm := las_mem (e0 :: e1 :: e2 :: e3 :: some (.int x) :: t) 0 4 (.int x) rfl
  rw [Nat.zero_add] at hm
  obtain ⟨kk, hkk⟩ := List.getElem?_of_mem hm
  exact lv_iinc C.1 C.2.1 d hl hkk hv hn rfl (fun ls' h' => by
    subst hq
    refine k H L ls' hW hS (lh_st h' ho (fun w h => by cases h; rfl) (fun j w hj h => ?_))
    iterate 5 (rcases j with _ | j; (first | exact absurd rfl hj | exact h))
    exact h)
theorem g_iinc_5 {e0 e1 e2 e3 e4 : Option Value} {n : Int} {x v : Int32} {t : List (Option Value)} (C : CX E cc own lev) (d : decode cc pc = .ok (.iinc 5 n, 3)) (hq : pc + 3 = q) (hn : 5 < eN E) (hv : x + Int32.ofInt n = v) (k : G E cl sl ad dm a b r q (e0 :: e1 :: e2 :: e3 :: e4 :: some (.int v) :: t) rest) (ho : okst (e0 :: e1 :: e2 :: e3 :: e4 :: some (.int x) :: t) 5 = true := by rfl) : G E cl sl ad dm a b r pc (e0 :: e1 :: e2 :: e3 :: e4 :: some (.int x) :: t) rest := fun H L ls hW hS hl => by
  have hm := las_mem (e0 :: e1 :: e2 :: e3 :: e4 :: some (.int x) :: t) 0 5 (.int x) rfl
  rw [Nat.zero_add] at hm
  obtain ⟨kk, hkk⟩ := List.getElem?_of_mem hm
  exact lv_iinc C.1 C.2.1 d hl hkk hv hn rfl (fun ls' h' => by
    subst hq
    refine k H L ls' hW hS (lh_st h' ho (fun w h => by cases h; rfl) (fun j w hj h => ?_))
    iterate 6 (rcases j with _ | j; (first | exact absurd rfl hj | exact h))
    exact h)
theorem g_iinc_6 {e0 e1 e2 e3 e4 e5 : Option Value} {n : Int} {x v : Int32} {t : List (Option Value)} (C : CX E cc own lev) (d : decode cc pc = .ok (.iinc 6 n, 3)) (hq : pc + 3 = q) (hn : 6 < eN E) (hv : x + Int32.ofInt n = v) (k : G E cl sl ad dm a b r q (e0 :: e1 :: e2 :: e3 :: e4 :: e5 :: some (.int v) :: t) rest) (ho : okst (e0 :: e1 :: e2 :: e3 :: e4 :: e5 :: some (.int x) :: t) 6 = true := by rfl) : G E cl sl ad dm a b r pc (e0 :: e1 :: e2 :: e3 :: e4 :: e5 :: some (.int x) :: t) rest := fun H L ls hW hS hl => by
  have hm := las_mem (e0 :: e1 :: e2 :: e3 :: e4 :: e5 :: some (.int x) :: t) 0 6 (.int x) rfl
  rw [Nat.zero_add] at hm
  obtain ⟨kk, hkk⟩ := List.getElem?_of_mem hm
  exact lv_iinc C.1 C.2.1 d hl hkk hv hn rfl (fun ls' h' => by
    subst hq
    refine k H L ls' hW hS (lh_st h' ho (fun w h => by cases h; rfl) (fun j w hj h => ?_))
    iterate 7 (rcases j with _ | j; (first | exact absurd rfl hj | exact h))
    exact h)
theorem g_iinc_7 {e0 e1 e2 e3 e4 e5 e6 : Option Value} {n : Int} {x v : Int32} {t : List (Option Value)} (C : CX E cc own lev) (d : decode cc pc = .ok (.iinc 7 n, 3)) (hq : pc + 3 = q) (hn : 7 < eN E) (hv : x + Int32.ofInt n = v) (k : G E cl sl ad dm a b r q (e0 :: e1 :: e2 :: e3 :: e4 :: e5 :: e6 :: some (.int v) :: t) rest) (ho : okst (e0 :: e1 :: e2 :: e3 :: e4 :: e5 :: e6 :: some (.int x) :: t) 7 = true := by rfl) : G E cl sl ad dm a b r pc (e0 :: e1 :: e2 :: e3 :: e4 :: e5 :: e6 :: some (.int x) :: t) rest := fun H L ls hW hS hl => by
  have hm := las_mem (e0 :: e1 :: e2 :: e3 :: e4 :: e5 :: e6 :: some (.int x) :: t) 0 7 (.int x) rfl
  rw [Nat.zero_add] at hm
  obtain ⟨kk, hkk⟩ := List.getElem?_of_mem hm
  exact lv_iinc C.1 C.2.1 d hl hkk hv hn rfl (fun ls' h' => by
    subst hq
    refine k H L ls' hW hS (lh_st h' ho (fun w h => by cases h; rfl) (fun j w hj h => ?_))
    iterate 8 (rcases j with _ | j; (first | exact absurd rfl hj | exact h))
    exact h)
theorem g_iinc_8 {e0 e1 e2 e3 e4 e5 e6 e7 : Option Value} {n : Int} {x v : Int32} {t : List (Option Value)} (C : CX E cc own lev) (d : decode cc pc = .ok (.iinc 8 n, 3)) (hq : pc + 3 = q) (hn : 8 < eN E) (hv : x + Int32.ofInt n = v) (k : G E cl sl ad dm a b r q (e0 :: e1 :: e2 :: e3 :: e4 :: e5 :: e6 :: e7 :: some (.int v) :: t) rest) (ho : okst (e0 :: e1 :: e2 :: e3 :: e4 :: e5 :: e6 :: e7 :: some (.int x) :: t) 8 = true := by rfl) : G E cl sl ad dm a b r pc (e0 :: e1 :: e2 :: e3 :: e4 :: e5 :: e6 :: e7 :: some (.int x) :: t) rest := fun H L ls hW hS hl => by
  have hm := las_mem (e0 :: e1 :: e2 :: e3 :: e4 :: e5 :: e6 :: e7 :: some (.int x) :: t) 0 8 (.int x) rfl
  rw [Nat.zero_add] at hm
  obtain ⟨kk, hkk⟩ := List.getElem?_of_mem hm
  exact lv_iinc C.1 C.2.1 d hl hkk hv hn rfl (fun ls' h' => by
    subst hq
    refine k H L ls' hW hS (lh_st h' ho (fun w h => by cases h; rfl) (fun j w hj h => ?_))
    iterate 9 (rcases j with _ | j; (first | exact absurd rfl hj | exact h))
    exact h)
theorem g_iinc_9 {e0 e1 e2 e3 e4 e5 e6 e7 e8 : Option Value} {n : Int} {x v : Int32} {t : List (Option Value)} (C : CX E cc own lev) (d : decode cc pc = .ok (.iinc 9 n, 3)) (hq : pc + 3 = q) (hn : 9 < eN E) (hv : x + Int32.ofInt n = v) (k : G E cl sl ad dm a b r q (e0 :: e1 :: e2 :: e3 :: e4 :: e5 :: e6 :: e7 :: e8 :: some (.int v) :: t) rest) (ho : okst (e0 :: e1 :: e2 :: e3 :: e4 :: e5 :: e6 :: e7 :: e8 :: some (.int x) :: t) 9 = true := by rfl) : G E cl sl ad dm a b r pc (e0 :: e1 :: e2 :: e3 :: e4 :: e5 :: e6 :: e7 :: e8 :: some (.int x) :: t) rest := fun H L ls hW hS hl => by
  have hm := las_mem (e0 :: e1 :: e2 :: e3 :: e4 :: e5 :: e6 :: e7 :: e8 :: some (.int x) :: t) 0 9 (.int x) rfl
  rw [Nat.zero_add] at hm
  obtain ⟨kk, hkk⟩ := List.getElem?_of_mem hm
  exact lv_iinc C.1 C.2.1 d hl hkk hv hn rfl (fun ls' h' => by
    subst hq
    refine k H L ls' hW hS (lh_st h' ho (fun w h => by cases h; rfl) (fun j w hj h => ?_))
    iterate 10 (rcases j with _ | j; (first | exact absurd rfl hj | exact h))
    exact h)
theorem g_iinc_10 {e0 e1 e2 e3 e4 e5 e6 e7 e8 e9 : Option Value} {n : Int} {x v : Int32} {t : List (Option Value)} (C : CX E cc own lev) (d : decode cc pc = .ok (.iinc 10 n, 3)) (hq : pc + 3 = q) (hn : 10 < eN E) (hv : x + Int32.ofInt n = v) (k : G E cl sl ad dm a b r q (e0 :: e1 :: e2 :: e3 :: e4 :: e5 :: e6 :: e7 :: e8 :: e9 :: some (.int v) :: t) rest) (ho : okst (e0 :: e1 :: e2 :: e3 :: e4 :: e5 :: e6 :: e7 :: e8 :: e9 :: some (.int x) :: t) 10 = true := by rfl) : G E cl sl ad dm a b r pc (e0 :: e1 :: e2 :: e3 :: e4 :: e5 :: e6 :: e7 :: e8 :: e9 :: some (.int x) :: t) rest := fun H L ls hW hS hl => by
  have hm := las_mem (e0 :: e1 :: e2 :: e3 :: e4 :: e5 :: e6 :: e7 :: e8 :: e9 :: some (.int x) :: t) 0 10 (.int x) rfl
  rw [Nat.zero_add] at hm
  obtain ⟨kk, hkk⟩ := List.getElem?_of_mem hm
  exact lv_iinc C.1 C.2.1 d hl hkk hv hn rfl (fun ls' h' => by
    subst hq
    refine k H L ls' hW hS (lh_st h' ho (fun w h => by cases h; rfl) (fun j w hj h => ?_))
    iterate 11 (rcases j with _ | j; (first | exact absurd rfl hj | exact h))
    exact h)
theorem g_iinc_11 {e0 e1 e2 e3 e4 e5 e6 e7 e8 e9 e10 : Option Value} {n : Int} {x v : Int32} {t : List (Option Value)} (C : CX E cc own lev) (d : decode cc pc = .ok (.iinc 11 n, 3)) (hq : pc + 3 = q) (hn : 11 < eN E) (hv : x + Int32.ofInt n = v) (k : G E cl sl ad dm a b r q (e0 :: e1 :: e2 :: e3 :: e4 :: e5 :: e6 :: e7 :: e8 :: e9 :: e10 :: some (.int v) :: t) rest) (ho : okst (e0 :: e1 :: e2 :: e3 :: e4 :: e5 :: e6 :: e7 :: e8 :: e9 :: e10 :: some (.int x) :: t) 11 = true := by rfl) : G E cl sl ad dm a b r pc (e0 :: e1 :: e2 :: e3 :: e4 :: e5 :: e6 :: e7 :: e8 :: e9 :: e10 :: some (.int x) :: t) rest := fun H L ls hW hS hl => by
  have hm := las_mem (e0 :: e1 :: e2 :: e3 :: e4 :: e5 :: e6 :: e7 :: e8 :: e9 :: e10 :: some (.int x) :: t) 0 11 (.int x) rfl
  rw [Nat.zero_add] at hm
  obtain ⟨kk, hkk⟩ := List.getElem?_of_mem hm
  exact lv_iinc C.1 C.2.1 d hl hkk hv hn rfl (fun ls' h' => by
    subst hq
    refine k H L ls' hW hS (lh_st h' ho (fun w h => by cases h; rfl) (fun j w hj h => ?_))
    iterate 12 (rcases j with _ | j; (first | exact absurd rfl hj | exact h))
    exact h)
theorem g_iinc_12 {e0 e1 e2 e3 e4 e5 e6 e7 e8 e9 e10 e11 : Option Value} {n : Int} {x v : Int32} {t : List (Option Value)} (C : CX E cc own lev) (d : decode cc pc = .ok (.iinc 12 n, 3)) (hq : pc + 3 = q) (hn : 12 < eN E) (hv : x + Int32.ofInt n = v) (k : G E cl sl ad dm a b r q (e0 :: e1 :: e2 :: e3 :: e4 :: e5 :: e6 :: e7 :: e8 :: e9 :: e10 :: e11 :: some (.int v) :: t) rest) (ho : okst (e0 :: e1 :: e2 :: e3 :: e4 :: e5 :: e6 :: e7 :: e8 :: e9 :: e10 :: e11 :: some (.int x) :: t) 12 = true := by rfl) : G E cl sl ad dm a b r pc (e0 :: e1 :: e2 :: e3 :: e4 :: e5 :: e6 :: e7 :: e8 :: e9 :: e10 :: e11 :: some (.int x) :: t) rest := fun H L ls hW hS hl => by
  have hm := las_mem (e0 :: e1 :: e2 :: e3 :: e4 :: e5 :: e6 :: e7 :: e8 :: e9 :: e10 :: e11 :: some (.int x) :: t) 0 12 (.int x) rfl
  rw [Nat.zero_add] at hm
  obtain ⟨kk, hkk⟩ := List.getElem?_of_mem hm
  exact lv_iinc C.1 C.2.1 d hl hkk hv hn rfl (fun ls' h' => by
    subst hq
    refine k H L ls' hW hS (lh_st h' ho (fun w h => by cases h; rfl) (fun j w hj h => ?_))
    iterate 13 (rcases j with _ | j; (first | exact absurd rfl hj | exact h))
    exact h)
theorem g_if_eq {x : Int32} {off : Int} {tgt : Nat} (C : CX E cc own lev) (d : decode cc pc = .ok (.ifCond .eq off, 3)) (hq : pc + 3 = q) (ht : (pc : Int) + off = (tgt : Int)) (kt : x = 0 → G E cl sl ad dm a b r tgt lo rest) (kf : ¬ x = 0 → G E cl sl ad dm a b r q lo rest) : G E cl sl ad dm a b r pc lo (.int x :: rest) := fun H L ls hW hS hl => lv_if_eq C.1 C.2.1 d ht (fun h => kt h H L ls hW hS hl) (fun h => by subst hq; exact kf h H L ls hW hS hl)
theorem g_if_ne {x : Int32} {off : Int} {tgt : Nat} (C : CX E cc own lev) (d : decode cc pc = .ok (.ifCond .ne off, 3)) (hq : pc + 3 = q) (ht : (pc : Int) + off = (tgt : Int)) (kt : ¬ x = 0 → G E cl sl ad dm a b r tgt lo rest) (kf : x = 0 → G E cl sl ad dm a b r q lo rest) : G E cl sl ad dm a b r pc lo (.int x :: rest) := fun H L ls hW hS hl => lv_if_ne C.1 C.2.1 d ht (fun h => kt h H L ls hW hS hl) (fun h => by subst hq; exact kf h H L ls hW hS hl)
theorem g_if_lt {x : Int32} {off : Int} {tgt : Nat} (C : CX E cc own lev) (d : decode cc pc = .ok (.ifCond .lt off, 3)) (hq : pc + 3 = q) (ht : (pc : Int) + off = (tgt : Int)) (kt : x < 0 → G E cl sl ad dm a b r tgt lo rest) (kf : ¬ x < 0 → G E cl sl ad dm a b r q lo rest) : G E cl sl ad dm a b r pc lo (.int x :: rest) := fun H L ls hW hS hl => lv_if_lt C.1 C.2.1 d ht (fun h => kt h H L ls hW hS hl) (fun h => by subst hq; exact kf h H L ls hW hS hl)
theorem g_if_ge {x : Int32} {off : Int} {tgt : Nat} (C : CX E cc own lev) (d : decode cc pc = .ok (.ifCond .ge off, 3)) (hq : pc + 3 = q) (ht : (pc : Int) + off = (tgt : Int)) (kt : 0 ≤ x → G E cl sl ad dm a b r tgt lo rest) (kf : ¬ 0 ≤ x → G E cl sl ad dm a b r q lo rest) : G E cl sl ad dm a b r pc lo (.int x :: rest) := fun H L ls hW hS hl => lv_if_ge C.1 C.2.1 d ht (fun h => kt h H L ls hW hS hl) (fun h => by subst hq; exact kf h H L ls hW hS hl)
theorem g_if_gt {x : Int32} {off : Int} {tgt : Nat} (C : CX E cc own lev) (d : decode cc pc = .ok (.ifCond .gt off, 3)) (hq : pc + 3 = q) (ht : (pc : Int) + off = (tgt : Int)) (kt : 0 < x → G E cl sl ad dm a b r tgt lo rest) (kf : ¬ 0 < x → G E cl sl ad dm a b r q lo rest) : G E cl sl ad dm a b r pc lo (.int x :: rest) := fun H L ls hW hS hl => lv_if_gt C.1 C.2.1 d ht (fun h => kt h H L ls hW hS hl) (fun h => by subst hq; exact kf h H L ls hW hS hl)
theorem g_if_le {x : Int32} {off : Int} {tgt : Nat} (C : CX E cc own lev) (d : decode cc pc = .ok (.ifCond .le off, 3)) (hq : pc + 3 = q) (ht : (pc : Int) + off = (tgt : Int)) (kt : x ≤ 0 → G E cl sl ad dm a b r tgt lo rest) (kf : ¬ x ≤ 0 → G E cl sl ad dm a b r q lo rest) : G E cl sl ad dm a b r pc lo (.int x :: rest) := fun H L ls hW hS hl => lv_if_le C.1 C.2.1 d ht (fun h => kt h H L ls hW hS hl) (fun h => by subst hq; exact kf h H L ls hW hS hl)
theorem g_icmp_eq {x y : Int32} {off : Int} {tgt : Nat} (C : CX E cc own lev) (d : decode cc pc = .ok (.if_icmp .eq off, 3)) (hq : pc + 3 = q) (ht : (pc : Int) + off = (tgt : Int)) (kt : x = y → G E cl sl ad dm a b r tgt lo rest) (kf : ¬ x = y → G E cl sl ad dm a b r q lo rest) : G E cl sl ad dm a b r pc lo (.int y :: .int x :: rest) := fun H L ls hW hS hl => lv_icmp_eq C.1 C.2.1 d ht (fun h => kt h H L ls hW hS hl) (fun h => by subst hq; exact kf h H L ls hW hS hl)
theorem g_icmp_ne {x y : Int32} {off : Int} {tgt : Nat} (C : CX E cc own lev) (d : decode cc pc = .ok (.if_icmp .ne off, 3)) (hq : pc + 3 = q) (ht : (pc : Int) + off = (tgt : Int)) (kt : ¬ x = y → G E cl sl ad dm a b r tgt lo rest) (kf : x = y → G E cl sl ad dm a b r q lo rest) : G E cl sl ad dm a b r pc lo (.int y :: .int x :: rest) := fun H L ls hW hS hl => lv_icmp_ne C.1 C.2.1 d ht (fun h => kt h H L ls hW hS hl) (fun h => by subst hq; exact kf h H L ls hW hS hl)
theorem g_icmp_lt {x y : Int32} {off : Int} {tgt : Nat} (C : CX E cc own lev) (d : decode cc pc = .ok (.if_icmp .lt off, 3)) (hq : pc + 3 = q) (ht : (pc : Int) + off = (tgt : Int)) (kt : x < y → G E cl sl ad dm a b r tgt lo rest) (kf : ¬ x < y → G E cl sl ad dm a b r q lo rest) : G E cl sl ad dm a b r pc lo (.int y :: .int x :: rest) := fun H L ls hW hS hl => lv_icmp_lt C.1 C.2.1 d ht (fun h => kt h H L ls hW hS hl) (fun h => by subst hq; exact kf h H L ls hW hS hl)
theorem g_icmp_ge {x y : Int32} {off : Int} {tgt : Nat} (C : CX E cc own lev) (d : decode cc pc = .ok (.if_icmp .ge off, 3)) (hq : pc + 3 = q) (ht : (pc : Int) + off = (tgt : Int)) (kt : y ≤ x → G E cl sl ad dm a b r tgt lo rest) (kf : ¬ y ≤ x → G E cl sl ad dm a b r q lo rest) : G E cl sl ad dm a b r pc lo (.int y :: .int x :: rest) := fun H L ls hW hS hl => lv_icmp_ge C.1 C.2.1 d ht (fun h => kt h H L ls hW hS hl) (fun h => by subst hq; exact kf h H L ls hW hS hl)
theorem g_icmp_gt {x y : Int32} {off : Int} {tgt : Nat} (C : CX E cc own lev) (d : decode cc pc = .ok (.if_icmp .gt off, 3)) (hq : pc + 3 = q) (ht : (pc : Int) + off = (tgt : Int)) (kt : y < x → G E cl sl ad dm a b r tgt lo rest) (kf : ¬ y < x → G E cl sl ad dm a b r q lo rest) : G E cl sl ad dm a b r pc lo (.int y :: .int x :: rest) := fun H L ls hW hS hl => lv_icmp_gt C.1 C.2.1 d ht (fun h => kt h H L ls hW hS hl) (fun h => by subst hq; exact kf h H L ls hW hS hl)
theorem g_icmp_le {x y : Int32} {off : Int} {tgt : Nat} (C : CX E cc own lev) (d : decode cc pc = .ok (.if_icmp .le off, 3)) (hq : pc + 3 = q) (ht : (pc : Int) + off = (tgt : Int)) (kt : x ≤ y → G E cl sl ad dm a b r tgt lo rest) (kf : ¬ x ≤ y → G E cl sl ad dm a b r q lo rest) : G E cl sl ad dm a b r pc lo (.int y :: .int x :: rest) := fun H L ls hW hS hl => lv_icmp_le C.1 C.2.1 d ht (fun h => kt h H L ls hW hS hl) (fun h => by subst hq; exact kf h H L ls hW hS hl)
theorem g_goto {off : Int} {tgt : Nat} {st : List Value} (C : CX E cc own lev) (d : decode cc pc = .ok (.goto off, 3)) (ht : (pc : Int) + off = (tgt : Int)) (k : G E cl sl ad dm a b r tgt lo st) : G E cl sl ad dm a b r pc lo st := fun H L ls hW hS hl => lv_goto C.1 C.2.1 d ht (k H L ls hW hS hl)
theorem g_ifnonnull {n : Nat} {off : Int} {tgt : Nat} (C : CX E cc own lev) (d : decode cc pc = .ok (.ifnonnull off, 3)) (ht : (pc : Int) + off = (tgt : Int)) (k : G E cl sl ad dm a b r tgt lo rest) : G E cl sl ad dm a b r pc lo (.ref n :: rest) := fun H L ls hW hS hl => lv_ifnonnull C.1 C.2.1 d ht (k H L ls hW hS hl)
theorem g_ifnull {n : Nat} {off : Int} (C : CX E cc own lev) (d : decode cc pc = .ok (.ifnull off, 3)) (hq : pc + 3 = q) (k : G E cl sl ad dm a b r q lo rest) : G E cl sl ad dm a b r pc lo (.ref n :: rest) := fun H L ls hW hS hl => lv_ifnull C.1 C.2.1 d (by subst hq; exact k H L ls hW hS hl)
theorem g_ifnullN {off : Int} {tgt : Nat} (C : CX E cc own lev) (d : decode cc pc = .ok (.ifnull off, 3)) (ht : (pc : Int) + off = (tgt : Int)) (k : G E cl sl ad dm a b r tgt lo rest) : G E cl sl ad dm a b r pc lo (.null :: rest) := fun H L ls hW hS hl => lv_ifnullN C.1 C.2.1 d ht (k H L ls hW hS hl)
theorem g_ifnonnullN {off : Int} (C : CX E cc own lev) (d : decode cc pc = .ok (.ifnonnull off, 3)) (hq : pc + 3 = q) (k : G E cl sl ad dm a b r q lo rest) : G E cl sl ad dm a b r pc lo (.null :: rest) := fun H L ls hW hS hl => lv_ifnonnullN C.1 C.2.1 d (by subst hq; exact k H L ls hW hS hl)
/-- two references, by their names -/
theorem g_acmp_eq {x y : Nat} {off : Int} {tgt : Nat} (C : CX E cc own lev) (d : decode cc pc = .ok (.if_acmp .eq off, 3)) (hq : pc + 3 = q) (ht : (pc : Int) + off = (tgt : Int)) (hx : dm x = true) (hy : dm y = true) (kt : x = y → G E cl sl ad dm a b r tgt lo rest) (kf : ¬ x = y → G E cl sl ad dm a b r q lo rest) : G E cl sl ad dm a b r pc lo (.ref (ad y) :: .ref (ad x) :: rest) := fun H L ls hW hS hl => by
  subst hq
  have e : (some (ad x) = some (ad y)) ↔ x = y := ⟨fun h => hW.2.2 x y hx hy (Option.some.inj h), fun h => by rw [h]⟩
  exact lv_acmp_eq (rx := some (ad x)) (ry := some (ad y)) C.1 C.2.1 d ht (fun h => kt (e.mp h) H L ls hW hS hl) (fun h => kf (fun z => h (e.mpr z)) H L ls hW hS hl)
theorem g_acmp_eqN1 {x : Nat} {off : Int} {tgt : Nat} (C : CX E cc own lev) (d : decode cc pc = .ok (.if_acmp .eq off, 3)) (hq : pc + 3 = q) (ht : (pc : Int) + off = (tgt : Int)) (k : G E cl sl ad dm a b r q lo rest) : G E cl sl ad dm a b r pc lo (.ref x :: .null :: rest) := fun H L ls hW hS hl => by
  subst hq
  exact lv_acmp_eq (rx := none) (ry := some x) C.1 C.2.1 d ht (fun h => by cases h) (fun h => k H L ls hW hS hl)
theorem g_acmp_eqN2 {x : Nat} {off : Int} {tgt : Nat} (C : CX E cc own lev) (d : decode cc pc = .ok (.if_acmp .eq off, 3)) (hq : pc + 3 = q) (ht : (pc : Int) + off = (tgt : Int)) (k : G E cl sl ad dm a b r q lo rest) : G E cl sl ad dm a b r pc lo (.null :: .ref x :: rest) := fun H L ls hW hS hl => by
  subst hq
  exact lv_acmp_eq (rx := some x) (ry := none) C.1 C.2.1 d ht (fun h => by cases h) (fun h => k H L ls hW hS hl)
/-- two references, by their names -/
theorem g_acmp_ne {x y : Nat} {off : Int} {tgt : Nat} (C : CX E cc own lev) (d : decode cc pc = .ok (.if_acmp .ne off, 3)) (hq : pc + 3 = q) (ht : (pc : Int) + off = (tgt : Int)) (hx : dm x = true) (hy : dm y = true) (kt : ¬ x = y → G E cl sl ad dm a b r tgt lo rest) (kf : x = y → G E cl sl ad dm a b r q lo rest) : G E cl sl ad dm a b r pc lo (.ref (ad y) :: .ref (ad x) :: rest) := fun H L ls hW hS hl => by
  subst hq
  have e : (some (ad x) = some (ad y)) ↔ x = y := ⟨fun h => hW.2.2 x y hx hy (Option.some.inj h), fun h => by rw [h]⟩
  exact lv_acmp_ne (rx := some (ad x)) (ry := some (ad y)) C.1 C.2.1 d ht (fun h => kt (fun z => h (e.mpr z)) H L ls hW hS hl) (fun h => kf (e.mp h) H L ls hW hS hl)
theorem g_acmp_neN1 {x : Nat} {off : Int} {tgt : Nat} (C : CX E cc own lev) (d : decode cc pc = .ok (.if_acmp .ne off, 3)) (hq : pc + 3 = q) (ht : (pc : Int) + off = (tgt : Int)) (k : G E cl sl ad dm a b r tgt lo rest) : G E cl sl ad dm a b r pc lo (.ref x :: .null :: rest) := fun H L ls hW hS hl => by
  subst hq
  exact lv_acmp_ne (rx := none) (ry := some x) C.1 C.2.1 d ht (fun h => k H L ls hW hS hl) (fun h => by cases h)
theorem g_acmp_neN2 {x : Nat} {off : Int} {tgt : Nat} (C : CX E cc own lev) (d : decode cc pc = .ok (.if_acmp .ne off, 3)) (hq : pc + 3 = q) (ht : (pc : Int) + off = (tgt : Int)) (k : G E cl sl ad dm a b r tgt lo rest) : G E cl sl ad dm a b r pc lo (.null :: .ref x :: rest) := fun H L ls hW hS hl => by
  subst hq
  exact lv_acmp_ne (rx := some x) (ry := none) C.1 C.2.1 d ht (fun h => k H L ls hW hS hl) (fun h => by cases h)
theorem g_tableOut {dflt lw hi : Int} {offs : Array Int} {len : Nat} {x : Int32} {tgt : Nat} (C : CX E cc own lev) (d : decode cc pc = .ok (.tableswitch dflt lw hi offs, len)) (h : x.toInt < lw ∨ hi < x.toInt) (ht : (pc : Int) + dflt = (tgt : Int)) (k : G E cl sl ad dm a b r tgt lo rest) : G E cl sl ad dm a b r pc lo (.int x :: rest) := fun H L ls hW hS hl => lv_tableOut C.1 C.2.1 d h ht (k H L ls hW hS hl)
theorem g_tableIn {dflt lw hi : Int} {offs : Array Int} {len : Nat} {x : Int32} {off : Int} {tgt : Nat} (C : CX E cc own lev) (d : decode cc pc = .ok (.tableswitch dflt lw hi offs, len)) (h1 : ¬ x.toInt < lw) (h2 : ¬ hi < x.toInt) (ho : offs[(x.toInt - lw).toNat]? = some off) (ht : (pc : Int) + off = (tgt : Int)) (k : G E cl sl ad dm a b r tgt lo rest) : G E cl sl ad dm a b r pc lo (.int x :: rest) := fun H L ls hW hS hl => lv_tableIn C.1 C.2.1 d h1 h2 ho ht (k H L ls hW hS hl)
end GR
end
section
/-! rows of fields and arrays, in the world's words -/
/-- a field that a class's pool number names: class number, slot, kind -/
def FF (own : String) (idx ci k t : Nat) : Prop := ∃ (Cn : String) (T : u_T) (N : Nat), vwCl[ci]? = some (Cn, T, N) ∧ (∀ w ∈ u_ws Cn T N, w ∈ gd) ∧ Cond.fieldLink own idx (T k).1 (T k).2.1 (T k).2.2.1 ∈ gd ∧ k < N ∧ (kds ci)[k]? = some t ∧ (kds ci).length = N
/-- and its type, and whether it is final -/
def FP (own : String) (idx ci k t : Nat) (fin : Bool) (ty : FieldType) : Prop := ∃ (Cn : String) (T : u_T) (N : Nat) (ty0 : Nat → FieldType), vwCl[ci]? = some (Cn, T, N) ∧ (∀ w ∈ u_ws Cn T N, w ∈ gd) ∧ Cond.fieldLink own idx (T k).1 (T k).2.1 (T k).2.2.1 ∈ gd ∧ k < N ∧ (kds ci)[k]? = some t ∧ (kds ci).length = N ∧ (∀ k, k < N → parseFieldDescriptor (T k).2.2.1 = some (ty0 k)) ∧ (∀ a, a < N → ∀ b, b < N → a ≠ b → (T a).2.1 ≠ (T b).2.1) ∧ (T k).2.2.2 = fin ∧ ty0 k = ty ∧ (T k).1 = Cn
section GH
variable {E : EN} {cc : ByteArray} {own : String} {lev cl sl : Nat} {ad : Nat → Nat} {dm : Nat → Bool} {a : Nat → Nat → Int32} {b : Nat → Nat → Int64} {r : Nat → Nat → Option Nat} {pc q : Nat} {lo : List (Option Value)} {rest : List Value}
theorem g_get {idx ci k t n : Nat} (C : CX E cc own lev) (F : FF own idx ci k t) (d : decode cc pc = .ok (.getfield idx, 3)) (hq : pc + 3 = q) (hl : ly n = .inl ci) (hd : dm n = true)
    (kk : G E cl sl ad dm a b r q lo (vl ad (a n) (b n) (r n) k t :: rest)) : G E cl sl ad dm a b r pc lo (.ref (ad n) :: rest) := fun H L ls hW hS hl' => by
  subst hq
  obtain ⟨Cn, T, N, h1, h2, h3, h4, h5, h6⟩ := F
  obtain ⟨hx, hb, hml, hown, hts, hK, -⟩ := C
  have hat := (hW.2.1 n hd).2
  rw [ce_o hl] at hat
  refine va_get (ws := [(ad n, .inr (ci, vls ad (a n) (b n) (r n) 0 (kds ci)))]) (v := vl ad (a n) (b n) (r n) k t) hx hb hts h2 hown hK (fun i z hz => ?_) 0 rfl h1 k h4 (hts _ h3) (fun _ h9 => h9) ?_ d (kk H L ls hW hS hl')
  · cases i with
    | zero => cases hz; exact hat
    | succ i => cases hz
  · have h7 := vls_get (ad := ad) (a := a n) (b := b n) (r := r n) (kds ci) 0 k t h5
    rw [Nat.zero_add] at h7
    exact h7
theorem g_geti {idx ci k n : Nat} (C : CX E cc own lev) (F : FF own idx ci k 0) (d : decode cc pc = .ok (.getfield idx, 3)) (hq : pc + 3 = q) (hl : ly n = .inl ci) (hd : dm n = true) (kk : G E cl sl ad dm a b r q lo (.int (a n k) :: rest)) : G E cl sl ad dm a b r pc lo (.ref (ad n) :: rest) := g_get C F d hq hl hd kk
theorem g_getl {idx ci k n : Nat} (C : CX E cc own lev) (F : FF own idx ci k 1) (d : decode cc pc = .ok (.getfield idx, 3)) (hq : pc + 3 = q) (hl : ly n = .inl ci) (hd : dm n = true) (kk : G E cl sl ad dm a b r q lo (.long (b n k) :: rest)) : G E cl sl ad dm a b r pc lo (.ref (ad n) :: rest) := g_get C F d hq hl hd kk
theorem g_getr {idx ci k n m : Nat} (C : CX E cc own lev) (F : FF own idx ci k 2) (d : decode cc pc = .ok (.getfield idx, 3)) (hq : pc + 3 = q) (hl : ly n = .inl ci) (hd : dm n = true) (hr : r n k = some m) (kk : G E cl sl ad dm a b r q lo (.ref (ad m) :: rest)) : G E cl sl ad dm a b r pc lo (.ref (ad n) :: rest) := g_get C F d hq hl hd (by
  show G E cl sl ad dm a b r q lo (va_rf ((r n k).map ad) :: rest)
  rw [hr]
  exact kk)
theorem g_getrN {idx ci k n : Nat} (C : CX E cc own lev) (F : FF own idx ci k 2) (d : decode cc pc = .ok (.getfield idx, 3)) (hq : pc + 3 = q) (hl : ly n = .inl ci) (hd : dm n = true) (hr : r n k = none) (kk : G E cl sl ad dm a b r q lo (.null :: rest)) : G E cl sl ad dm a b r pc lo (.ref (ad n) :: rest) := g_get C F d hq hl hd (by
  show G E cl sl ad dm a b r q lo (va_rf ((r n k).map ad) :: rest)
  rw [hr]
  exact kk)
/-- the reference that is for ever -/
theorem g_getc {idx ci k n m : Nat} (C : CX E cc own lev) (F : FF own idx ci k (m + 3)) (d : decode cc pc = .ok (.getfield idx, 3)) (hq : pc + 3 = q) (hl : ly n = .inl ci) (hd : dm n = true) (kk : G E cl sl ad dm a b r q lo (.ref (ad m) :: rest)) : G E cl sl ad dm a b r pc lo (.ref (ad n) :: rest) := g_get C F d hq hl hd kk
/-- a field is written -/
theorem g_put {idx ci k t n : Nat} {ty : FieldType} {v : Value} {a' : Nat → Nat → Int32} {b' : Nat → Nat → Int64} {r' : Nat → Nat → Option Nat} (C : CX E cc own lev) (F : FP own idx ci k t false ty) (d : decode cc pc = .ok (.putfield idx, 3)) (hq : pc + 3 = q) (hl : ly n = .inl ci) (hd : dm n = true) (hn : narrow ty v = v) (hf : fits ty v = true)
    (hs : ∀ i, i ≠ n → a i = a' i ∧ b i = b' i ∧ r i = r' i) (hv : vl ad (a' n) (b' n) (r' n) k t = v) (ho : ∀ i u, i ≠ k → vl ad (a n) (b n) (r n) i u = vl ad (a' n) (b' n) (r' n) i u)
    (kk : G E cl sl ad dm a' b' r' q lo rest) : G E cl sl ad dm a b r pc lo (v :: .ref (ad n) :: rest) := fun H L ls hW hS hl' => by
  subst hq
  obtain ⟨Cn, T, N, ty0, h1, h2, h3, h4, h5, h6, hty, hnm, hfin, hty1, hdc⟩ := F
  obtain ⟨hx, hb, hml, hown, hts, hK, -⟩ := C
  have hat := (hW.2.1 n hd).2
  rw [ce_o hl] at hat
  have hap := va_apart (own := own) hts h2 ty0 hty hnm hK h1
  obtain ⟨rr, g1, cell, q1, q2, q3, q4⟩ := hat
  have hr : rr = (Cn, T, N) := Option.some.inj (g1.symm.trans h1)
  subst hr
  obtain ⟨hSl, hfc, kC, hkC, hkind⟩ := hK.1 ci _ h1
  obtain ⟨cf, kf, fi, f, hi, hsl⟩ := hSl k h4
  have hlay := hts _ (h2 _ (u_in_lay h4))
  unfold u_lay at hlay
  rw [if_neg (by rw [hfin]; decide)] at hlay
  have hst := (u_facts hfc hkC (u_lays hts h2 h4) hi).1
  have h9 := u_store (v := v) hfc hkC hkind hlay hi (hty k h4) (by rw [hty1]; exact hn) (by rw [hty1]; exact hf)
  refine W.putK hx hb (f := f) ⟨hown, hts _ h3, ⟨_, _, _, hi⟩, hst⟩ (by rw [q2]; exact h9) q1 q3 (by rw [hsl]; exact k2_hasslot (q4 k h4)) rfl rfl d fun H' e1 e2 e3 => ?_
  rw [hsl] at e1 ⊢
  have hkl : k < (vls ad (a n) (b n) (r n) 0 (kds ci)).length := by rw [vls_len, h6]; exact h4
  have e4 : (vls ad (a n) (b n) (r n) 0 (kds ci)).set k v = vls ad (a' n) (b' n) (r' n) 0 (kds ci) := vls_set (kds ci) 0 k t h5 (by rw [Nat.zero_add]; exact hv) (fun i u hi => ho i u (by omega))
  refine kk H' _ ls (hW.st hd e2 e3 ?_ hs) (hS.put e2 e3 (hW.2.1 n hd).1) hl'
  rw [ce_o hl]
  exact ⟨_, h1, t_OB.to (V := updV (vp_V (vls ad (a n) (b n) (r n) 0 (kds ci))) k v) ⟨_, e1, q2, q3, t_set q4 hap h4 v⟩ (fun j _ => by rw [vp_updV_set hkl v j, e4])⟩
theorem vl_u2 {ad : Nat → Nat} {a : Nat → Nat → Int32} {b : Nat → Nat → Int64} {r : Nat → Nat → Option Nat} {n k i : Nat} {x : Int32} (u : Nat) (h : i ≠ k) : vl ad (a n) (b n) (r n) i u = vl ad (u2 a n k x n) (b n) (r n) i u := by
  match u with
  | 0 => simp [vl, u2, h]
  | 1 => rfl
  | 2 => rfl
  | u + 3 => rfl
theorem vl_u2l {ad : Nat → Nat} {a : Nat → Nat → Int32} {b : Nat → Nat → Int64} {r : Nat → Nat → Option Nat} {n k i : Nat} {x : Int64} (u : Nat) (h : i ≠ k) : vl ad (a n) (b n) (r n) i u = vl ad (a n) (u2 b n k x n) (r n) i u := by
  match u with
  | 0 => rfl
  | 1 => simp [vl, u2, h]
  | 2 => rfl
  | u + 3 => rfl
theorem vl_u2r {ad : Nat → Nat} {a : Nat → Nat → Int32} {b : Nat → Nat → Int64} {r : Nat → Nat → Option Nat} {n k i : Nat} {x : Option Nat} (u : Nat) (h : i ≠ k) : vl ad (a n) (b n) (r n) i u = vl ad (a n) (b n) (u2 r n k x n) i u := by
  match u with
  | 0 => rfl
  | 1 => rfl
  | 2 => simp [vl, u2, h]
  | u + 3 => rfl
theorem g_puti {idx ci k n : Nat} {x : Int32} {ty : FieldType} (C : CX E cc own lev) (F : FP own idx ci k 0 false ty) (d : decode cc pc = .ok (.putfield idx, 3)) (hq : pc + 3 = q) (hl : ly n = .inl ci) (hd : dm n = true) (hn : narrow ty (.int x) = .int x) (hf : fits ty (.int x) = true) (kk : G E cl sl ad dm (u2 a n k x) b r q lo rest) : G E cl sl ad dm a b r pc lo (.int x :: .ref (ad n) :: rest) :=
  g_put C F d hq hl hd hn hf (fun i hi => ⟨(u2_n hi).symm, rfl, rfl⟩) (by show Value.int (u2 a n k x n k) = _; rw [u2_s]) (fun i u hi => vl_u2 u hi) kk
theorem g_putl {idx ci k n : Nat} {x : Int64} {ty : FieldType} (C : CX E cc own lev) (F : FP own idx ci k 1 false ty) (d : decode cc pc = .ok (.putfield idx, 3)) (hq : pc + 3 = q) (hl : ly n = .inl ci) (hd : dm n = true) (hn : narrow ty (.long x) = .long x) (hf : fits ty (.long x) = true) (kk : G E cl sl ad dm a (u2 b n k x) r q lo rest) : G E cl sl ad dm a b r pc lo (.long x :: .ref (ad n) :: rest) :=
  g_put C F d hq hl hd hn hf (fun i hi => ⟨rfl, (u2_n hi).symm, rfl⟩) (by show Value.long (u2 b n k x n k) = _; rw [u2_s]) (fun i u hi => vl_u2l u hi) kk
theorem g_putr {idx ci k n m : Nat} {ty : FieldType} (C : CX E cc own lev) (F : FP own idx ci k 2 false ty) (d : decode cc pc = .ok (.putfield idx, 3)) (hq : pc + 3 = q) (hl : ly n = .inl ci) (hd : dm n = true) (hn : narrow ty (.ref (ad m)) = .ref (ad m)) (hf : fits ty (.ref (ad m)) = true) (kk : G E cl sl ad dm a b (u2 r n k (some m)) q lo rest) : G E cl sl ad dm a b r pc lo (.ref (ad m) :: .ref (ad n) :: rest) :=
  g_put C F d hq hl hd hn hf (fun i hi => ⟨rfl, rfl, (u2_n hi).symm⟩) (by show va_rf ((u2 r n k (some m) n k).map ad) = _; rw [u2_s]; rfl) (fun i u hi => vl_u2r u hi) kk
theorem g_putrN {idx ci k n : Nat} {ty : FieldType} (C : CX E cc own lev) (F : FP own idx ci k 2 false ty) (d : decode cc pc = .ok (.putfield idx, 3)) (hq : pc + 3 = q) (hl : ly n = .inl ci) (hd : dm n = true) (hn : narrow ty .null = .null) (hf : fits ty .null = true) (kk : G E cl sl ad dm a b (u2 r n k none) q lo rest) : G E cl sl ad dm a b r pc lo (.null :: .ref (ad n) :: rest) :=
  g_put C F d hq hl hd hn hf (fun i hi => ⟨rfl, rfl, (u2_n hi).symm⟩) (by show va_rf ((u2 r n k none n k).map ad) = _; rw [u2_s]; rfl) (fun i u hi => vl_u2r u hi) kk
/-- rows of ints, of longs, of references -/
theorem Wd.one {g : GM} {bs : Nat} {H : Heap} (h : Wd g bs ad dm a b r H) {n : Nat} (hd : dm n = true) {e : va_E} (he : ce g ad a b r n = e) : va_P g.1 vwCl [(ad n, e)] H := by
  intro i z hz
  cases i with
  | zero => cases hz; rw [← he]; exact (h.2.1 n hd).2
  | succ i => cases hz
theorem g_iald {n len : Nat} {i : Int32} (C : CX E cc own lev) (d : decode cc pc = .ok (.iaload, 1)) (hq : pc + 1 = q) (hl : ly n = .inr (0, len)) (hd : dm n = true) (hin : vp_in i len) (kk : G E cl sl ad dm a b r q lo (.int (a n i.toNatClampNeg) :: rest)) : G E cl sl ad dm a b r pc lo (.int i :: .ref (ad n) :: rest) := fun H L ls hW hS hl' => by
  subst hq
  exact va_iald C.1 C.2.1 C.2.2.2.2.2.1 (hW.one hd (ce_i hl)) 0 0 rfl rfl hin d (kk H L ls hW hS hl')
theorem g_lald {n len : Nat} {i : Int32} (C : CX E cc own lev) (d : decode cc pc = .ok (.laload, 1)) (hq : pc + 1 = q) (hl : ly n = .inr (1, len)) (hd : dm n = true) (hin : vp_in i len) (kk : G E cl sl ad dm a b r q lo (.long (b n i.toNatClampNeg) :: rest)) : G E cl sl ad dm a b r pc lo (.int i :: .ref (ad n) :: rest) := fun H L ls hW hS hl' => by
  subst hq
  exact va_lald C.1 C.2.1 C.2.2.2.2.2.1 (hW.one hd (ce_l hl)) 0 1 rfl rfl hin d (kk H L ls hW hS hl')
theorem g_aald2 {n len : Nat} {i : Int32} (C : CX E cc own lev) (d : decode cc pc = .ok (.aaload, 1)) (hq : pc + 1 = q) (hl : ly n = .inr (2, len)) (hd : dm n = true) (hin : vp_in i len) (kk : G E cl sl ad dm a b r q lo (va_rf ((r n i.toNatClampNeg).map ad) :: rest)) : G E cl sl ad dm a b r pc lo (.int i :: .ref (ad n) :: rest) := fun H L ls hW hS hl' => by
  subst hq
  exact va_aldq C.1 C.2.1 C.2.2.2.2.2.1 (hW.one hd (ce_f hl)) 0 2 rfl rfl hin d (kk H L ls hW hS hl')
theorem g_aald3 {n len : Nat} {i : Int32} (C : CX E cc own lev) (d : decode cc pc = .ok (.aaload, 1)) (hq : pc + 1 = q) (hl : ly n = .inr (3, len)) (hd : dm n = true) (hin : vp_in i len) (kk : G E cl sl ad dm a b r q lo (va_rf ((r n i.toNatClampNeg).map ad) :: rest)) : G E cl sl ad dm a b r pc lo (.int i :: .ref (ad n) :: rest) := fun H L ls hW hS hl' => by
  subst hq
  exact va_aldq C.1 C.2.1 C.2.2.2.2.2.1 (hW.one hd (ce_p hl)) 0 3 rfl rfl hin d (kk H L ls hW hS hl')
/-- a row of references, the place by its number, what is there known -/
theorem g_aaF {n len j m : Nat} {i : Int32} (C : CX E cc own lev) (d : decode cc pc = .ok (.aaload, 1)) (hq : pc + 1 = q) (hl : ly n = .inr (2, len)) (hd : dm n = true) (hi : i = nI j) (hj : j < len) (h31 : len < 2 ^ 31) (hr : r n j = some m) (kk : G E cl sl ad dm a b r q lo (.ref (ad m) :: rest)) : G E cl sl ad dm a b r pc lo (.int i :: .ref (ad n) :: rest) := by
  subst hi
  refine g_aald2 C d hq hl hd (vp_in_nI hj h31) ?_
  rw [nI_clamp (by omega), hr]
  exact kk
theorem g_aaFN {n len j : Nat} {i : Int32} (C : CX E cc own lev) (d : decode cc pc = .ok (.aaload, 1)) (hq : pc + 1 = q) (hl : ly n = .inr (2, len)) (hd : dm n = true) (hi : i = nI j) (hj : j < len) (h31 : len < 2 ^ 31) (hr : r n j = none) (kk : G E cl sl ad dm a b r q lo (.null :: rest)) : G E cl sl ad dm a b r pc lo (.int i :: .ref (ad n) :: rest) := by
  subst hi
  refine g_aald2 C d hq hl hd (vp_in_nI hj h31) ?_
  rw [nI_clamp (by omega), hr]
  exact kk
theorem g_aaP {n len j m : Nat} {i : Int32} (C : CX E cc own lev) (d : decode cc pc = .ok (.aaload, 1)) (hq : pc + 1 = q) (hl : ly n = .inr (3, len)) (hd : dm n = true) (hi : i = nI j) (hj : j < len) (h31 : len < 2 ^ 31) (hr : r n j = some m) (kk : G E cl sl ad dm a b r q lo (.ref (ad m) :: rest)) : G E cl sl ad dm a b r pc lo (.int i :: .ref (ad n) :: rest) := by
  subst hi
  refine g_aald3 C d hq hl hd (vp_in_nI hj h31) ?_
  rw [nI_clamp (by omega), hr]
  exact kk
theorem g_ia {n len j : Nat} {i : Int32} (C : CX E cc own lev) (d : decode cc pc = .ok (.iaload, 1)) (hq : pc + 1 = q) (hl : ly n = .inr (0, len)) (hd : dm n = true) (hi : i = nI j) (hj : j < len) (h31 : len < 2 ^ 31) (kk : G E cl sl ad dm a b r q lo (.int (a n j) :: rest)) : G E cl sl ad dm a b r pc lo (.int i :: .ref (ad n) :: rest) := by
  subst hi
  refine g_iald C d hq hl hd (vp_in_nI hj h31) ?_
  rw [nI_clamp (by omega)]
  exact kk
theorem g_la {n len j : Nat} {i : Int32} (C : CX E cc own lev) (d : decode cc pc = .ok (.laload, 1)) (hq : pc + 1 = q) (hl : ly n = .inr (1, len)) (hd : dm n = true) (hi : i = nI j) (hj : j < len) (h31 : len < 2 ^ 31) (kk : G E cl sl ad dm a b r q lo (.long (b n j) :: rest)) : G E cl sl ad dm a b r pc lo (.int i :: .ref (ad n) :: rest) := by
  subst hi
  refine g_lald C d hq hl hd (vp_in_nI hj h31) ?_
  rw [nI_clamp (by omega)]
  exact kk
theorem g_alen {n t len : Nat} {v : Int32} (C : CX E cc own lev) (d : decode cc pc = .ok (.arraylength, 1)) (hq : pc + 1 = q) (hl : ly n = .inr (t, len)) (ht : t < 2) (hd : dm n = true) (hv : Int32.ofNat len = v) (kk : G E cl sl ad dm a b r q lo (.int v :: rest)) : G E cl sl ad dm a b r pc lo (.ref (ad n) :: rest) := fun H L ls hW hS hl' => by
  subst hq
  match t, ht, hl with
  | 0, _, hl => exact va_alen C.1 C.2.1 C.2.2.2.2.2.1 (hW.one hd (ce_i hl)) 0 0 rfl rfl hv d (kk H L ls hW hS hl')
  | 1, _, hl => exact va_alen C.1 C.2.1 C.2.2.2.2.2.1 (hW.one hd (ce_l hl)) 0 1 rfl rfl hv d (kk H L ls hW hS hl')
theorem u2_row {α : Type} {f : Nat → Nat → α} {n k : Nat} {v : α} : u2 f n k v n = fun j => if j = k then v else f n j := by
  funext j
  simp [u2]
theorem g_iast {n len j : Nat} {i x : Int32} (C : CX E cc own lev) (d : decode cc pc = .ok (.iastore, 1)) (hq : pc + 1 = q) (hl : ly n = .inr (0, len)) (hd : dm n = true) (hi : i = nI j) (hj : j < len) (h31 : len < 2 ^ 31) (kk : G E cl sl ad dm (u2 a n j x) b r q lo rest) : G E cl sl ad dm a b r pc lo (.int x :: .int i :: .ref (ad n) :: rest) := fun H L ls hW hS hl' => by
  subst hq
  subst hi
  have hat := (hW.2.1 n hd).2
  rw [ce_i hl] at hat
  refine W.iast C.1 C.2.1 hat ((C.2.2.2.2.2.1.2 0 _ rfl).1 len (fun j => .int (a n j))) (fun q => by cases q) (by show ¬ (_ ∨ (arrV _ _ _).slots.size ≤ _); rw [arrV_size]; exact vp_in_nI hj h31) rfl rfl d fun H1 e z oq => ?_
  refine kk H1 _ ls (hW.st hd z oq ?_ (fun i hi => ⟨(u2_n hi).symm, rfl, rfl⟩)) (hS.put z oq (hW.2.1 n hd).1) hl'
  rw [ce_i hl]
  show H1[ad n]? = some (vp_cell _ _)
  rw [e, nI_clamp (by omega), vp_cell_i, vp_cell_i, arrV_store]
  congr 2
  funext q
  by_cases hq : q = j <;> simp [updV, u2, hq]
theorem g_last {n len j : Nat} {i : Int32} {x : Int64} (C : CX E cc own lev) (d : decode cc pc = .ok (.lastore, 1)) (hq : pc + 1 = q) (hl : ly n = .inr (1, len)) (hd : dm n = true) (hi : i = nI j) (hj : j < len) (h31 : len < 2 ^ 31) (kk : G E cl sl ad dm a (u2 b n j x) r q lo rest) : G E cl sl ad dm a b r pc lo (.long x :: .int i :: .ref (ad n) :: rest) := fun H L ls hW hS hl' => by
  subst hq
  subst hi
  have hat := (hW.2.1 n hd).2
  rw [ce_l hl] at hat
  refine W.last C.1 C.2.1 hat ((C.2.2.2.2.2.1.2 1 _ rfl).1 len (fun j => .long (b n j))) (fun q => by cases q) (by show ¬ (_ ∨ (arrV _ _ _).slots.size ≤ _); rw [arrV_size]; exact vp_in_nI hj h31) rfl rfl d fun H1 e z oq => ?_
  refine kk H1 _ ls (hW.st hd z oq ?_ (fun i hi => ⟨rfl, (u2_n hi).symm, rfl⟩)) (hS.put z oq (hW.2.1 n hd).1) hl'
  rw [ce_l hl]
  show H1[ad n]? = some (vp_cell _ _)
  rw [e, nI_clamp (by omega), vp_cell_l, vp_cell_l, arrV_store]
  congr 2
  funext q
  by_cases hq : q = j <;> simp [updV, u2, hq]
theorem g_aastK {n len j m t ci : Nat} {cA : ClassId} {rr : vw_C} {i : Int32} (C : CX E cc own lev) (d : decode cc pc = .ok (.aastore, 1)) (hq : pc + 1 = q) (hce : ∀ r : Nat → Nat → Option Nat, ce (eG E) ad a b r n = .inl (cA, len, .inr (.inr (.inr (.inr (fun k => (r n k).map ad)))))) (ht : (tysG (eG E))[t]? = some (cA, .object rr.1)) (hc : vwCl[ci]? = some rr) (hd : dm n = true) (hm : dm m = true) (hlm : ly m = .inl ci) (hi : i = nI j) (hj : j < len) (h31 : len < 2 ^ 31) (kk : G E cl sl ad dm a b (u2 r n j (some m)) q lo rest) : G E cl sl ad dm a b r pc lo (.ref (ad m) :: .int i :: .ref (ad n) :: rest) := fun H L ls hW hS hl' => by
  subst hq
  subst hi
  obtain ⟨hx, hb, -, -, -, hK, -⟩ := C
  have hat := (hW.2.1 n hd).2
  rw [hce] at hat
  have hav := (hW.2.1 m hm).2
  rw [ce_o hlm] at hav
  obtain ⟨q', g0, cell, g1, g2, g3, -⟩ := hav
  have hlt : (nI j).toNatClampNeg < len := by rw [nI_clamp (by omega)]; exact hj
  have hcls := (hK.1 ci rr hc).2
  obtain ⟨kA, comp, k1, k2, k3, -⟩ := (hK.2 t _ ht).2
  have hcomp : comp = (eG E).1.1 ci := Option.some.inj (k3.symm.trans hcls.1)
  subst hcomp
  obtain ⟨kC, hkC, -⟩ := hcls.2
  refine W.aast hx hb hat (fun q h => by cases h) (fun h => by cases h) k1 k2 rfl hkC ⟨fun q => (vp_in_nI hj h31) (Or.inl q), by show _ < (arrV _ _ _).slots.size; rw [arrV_size]; exact hlt⟩ g1 (fun q h => by rw [g3] at h; cases h) (by rw [g2]; exact hkC) (by rw [g2]; exact va_assign hcls) rfl rfl d fun H1 e z oq => ?_
  refine kk H1 _ ls (hW.st hd z oq ?_ (fun i hi => ⟨rfl, rfl, (u2_n hi).symm⟩)) (hS.put z oq (hW.2.1 n hd).1) hl'
  rw [hce]
  show H1[ad n]? = some (vp_cell _ _)
  rw [e, nI_clamp (by omega), vp_cell_q, vp_cell_q, arrV_store]
  congr 2
  funext q
  by_cases hq : q = j <;> simp [updV, u2, hq, va_rf]
theorem g_aastF {n len j m : Nat} {i : Int32} (C : CX E cc own lev) (d : decode cc pc = .ok (.aastore, 1)) (hq : pc + 1 = q) (hl : ly n = .inr (2, len)) (hd : dm n = true) (hm : dm m = true) (hlm : ly m = .inl 0) (hi : i = nI j) (hj : j < len) (h31 : len < 2 ^ 31) (kk : G E cl sl ad dm a b (u2 r n j (some m)) q lo rest) : G E cl sl ad dm a b r pc lo (.ref (ad m) :: .int i :: .ref (ad n) :: rest) := g_aastK (t := 2) C d hq (fun _ => ce_f hl) rfl rfl hd hm hlm hi hj h31 kk
theorem g_aastP {n len j m : Nat} {i : Int32} (C : CX E cc own lev) (d : decode cc pc = .ok (.aastore, 1)) (hq : pc + 1 = q) (hl : ly n = .inr (3, len)) (hd : dm n = true) (hm : dm m = true) (hlm : ly m = .inl 2) (hi : i = nI j) (hj : j < len) (h31 : len < 2 ^ 31) (kk : G E cl sl ad dm a b (u2 r n j (some m)) q lo rest) : G E cl sl ad dm a b r pc lo (.ref (ad m) :: .int i :: .ref (ad n) :: rest) := g_aastK (t := 3) C d hq (fun _ => ce_p hl) rfl rfl hd hm hlm hi hj h31 kk
theorem g_aastFN {n len j : Nat} {i : Int32} (C : CX E cc own lev) (d : decode cc pc = .ok (.aastore, 1)) (hq : pc + 1 = q) (hl : ly n = .inr (2, len)) (hd : dm n = true) (hi : i = nI j) (hj : j < len) (h31 : len < 2 ^ 31) (kk : G E cl sl ad dm a b (u2 r n j none) q lo rest) : G E cl sl ad dm a b r pc lo (.null :: .int i :: .ref (ad n) :: rest) := fun H L ls hW hS hl' => by
  subst hq
  subst hi
  have hat := (hW.2.1 n hd).2
  rw [ce_f hl] at hat
  refine va_WaastN (C := RX0) C.1 C.2.1 hat ((C.2.2.2.2.2.1.2 2 _ rfl).1 len (fun j => va_rf ((r n j).map ad))) (fun q => by cases q) (by show ¬ (_ ∨ (arrV _ _ _).slots.size ≤ _); rw [arrV_size]; exact vp_in_nI hj h31) rfl rfl d fun H1 e z oq => ?_
  refine kk H1 _ ls (hW.st hd z oq ?_ (fun i hi => ⟨rfl, rfl, (u2_n hi).symm⟩)) (hS.put z oq (hW.2.1 n hd).1) hl'
  rw [ce_f hl]
  show H1[ad n]? = some (vp_cell _ _)
  rw [e, nI_clamp (by omega), vp_cell_q, vp_cell_q, arrV_store]
  congr 2
  funext q
  by_cases hq : q = j <;> simp [updV, u2, hq, va_rf]
end GH
end
section
/-! contracts, calls, ends -/
abbrev PO : Type := Option Value → (Nat → Nat) → (Nat → Bool) → (Nat → Nat → Int32) → (Nat → Nat → Int64) → (Nat → Nat → Option Nat) → Prop
def QP (g : GM) (bs : Nat) (P : PO) : Array Value → State → Outcome → State → Prop := fun _ st oc t => (∃ (v : Option Value) (ad : Nat → Nat) (dm : Nat → Bool) (a : Nat → Nat → Int32) (b : Nat → Nat → Int64) (r : Nat → Nat → Option Nat), oc = .returned v ∧ P v ad dm a b r ∧ Wd g bs ad dm a b r t.heap) ∧ va_F (fun q => bs ≤ q) st t
def PC (g : GM) (bs : Nat) (av : List Value) (ad : Nat → Nat) (dm : Nat → Bool) (a : Nat → Nat → Int32) (b : Nat → Nat → Int64) (r : Nat → Nat → Option Nat) : Array Value → State → Prop := va_Pc av (fun U => Wd g bs ad dm a b r U.heap ∧ va_K g.1 vwCl (tysG g) U)
theorem PC_blind {g : GM} {bs : Nat} {av : List Value} {ad : Nat → Nat} {dm : Nat → Bool} {a : Nat → Nat → Int32} {b : Nat → Nat → Int64} {r : Nat → Nat → Option Nat} : FrameBlind (PC g bs av ad dm a b r) := fun _ U f mk h => ⟨h.1, h.2.1, va_K.moved (u := U) (U := U.calling f mk _) (Vm.Alike.refl U.vm) h.2.2⟩
/-- a method's contract at one start -/
def MT (g : GM) (bs : Nat) (l : Launch) (y : MethodName) (cc : ByteArray) (nL : Nat) (ret : Option FieldType) (lev mc ms : Nat) (av : List Value) (ad : Nat → Nat) (dm : Nat → Bool) (a : Nat → Nat → Int32) (b : Nat → Nat → Int64) (r : Nat → Nat → Option Nat) (P : PO) : Prop :=
  Met l y (.code y cc nL ret :: gd) { frames := lev, cells := mc, slots := ms, locals := 40 * lev } (PC g bs av ad dm a b r) (QP g bs P) mc ms (fun q => bs ≤ q)
/-- an exact end -/
def PX (v : Option Value) (ad : Nat → Nat) (dm : Nat → Bool) (a : Nat → Nat → Int32) (b : Nat → Nat → Int64) (r : Nat → Nat → Option Nat) : PO := fun v0 ad0 dm0 a0 b0 r0 => v0 = v ∧ ad0 = ad ∧ dm0 = dm ∧ a0 = a ∧ b0 = b ∧ r0 = r
theorem px {v v0 : Option Value} {ad : Nat → Nat} {dm : Nat → Bool} {a : Nat → Nat → Int32} {b : Nat → Nat → Int64} {r : Nat → Nat → Option Nat} (h : v0 = v) : PX v ad dm a b r v0 ad dm a b r := ⟨h, rfl, rfl, rfl, rfl, rfl⟩
theorem pxi {x y : Int32} {ad : Nat → Nat} {dm : Nat → Bool} {a : Nat → Nat → Int32} {b : Nat → Nat → Int64} {r : Nat → Nat → Option Nat} (h : x = y) : PX (some (.int y)) ad dm a b r (some (.int x)) ad dm a b r := px (by rw [h])
def RT (E : EN) (mc ms : Nat) (ret : Option FieldType) (P : PO) : Prop := eQ E = MQ (eW E) (QP (eG E) (eB E) P) (eA E) (eS E) mc ms (fun q => eB E ≤ q) ∧ (eH E).sig.returnType = ret ∧ (eH E).locks = false
theorem mt_of {g : GM} {bs : Nat} {l : Launch} {y : MethodName} {cc : ByteArray} {nL : Nat} {ret : Option FieldType} {lev mc ms : Nat} {av : List Value} {ad : Nat → Nat} {dm : Nat → Bool} {a : Nat → Nat → Int32} {b : Nat → Nat → Int64} {r : Nat → Nat → Option Nat} {P : PO} (hy : plainName y.cls = true) (lo : List (Option Value)) (hlo : las 0 lo = lv_args 0 av) (hlen : (lg_sl av).length ≤ nL)
    (body : ∀ E : EN, eG E = g → eB E = bs → eL E = l → eN E = nL → CX E cc y.cls lev → RT E mc ms ret P → (eR E).cells = mc → (eR E).slots = ms → (eH E).name = y.name → G E 0 0 ad dm a b r 0 lo []) : MT g bs l y cc nL ret lev mc ms av ad dm a b r P := by
  refine Met.ofW (cc := cc) (maxL := nL) (ret := ret) hy rfl ?_
  intro p e s m args below meth c s₁ B hml hv
  obtain ⟨rfl, hW, hK⟩ := hv
  have hts := atoms_spec (ws := .code y cc nL ret :: gd) B.pre
  have hbody := body (g, bs, (p, l, e, { frames := lev, cells := mc, slots := ms, locals := 40 * lev }, s, m, av.toArray, below, meth, c), nL, MQ below (QP g bs P) av.toArray s mc ms (fun q => bs ≤ q)) rfl rfl rfl rfl ⟨B.exec, B.bytes, hml, findClass_of_methodNamed B.named, fun w hw => hts w (List.mem_cons_of_mem _ hw), hK, Nat.le_refl _, Nat.le_refl _⟩ ⟨rfl, B.returns, B.notSynchronized⟩ rfl rfl (name_of_methodNamed B.named B.method).1
  have hl := lv_entry av (n := nL) hlen
  rw [← hlo] at hl
  rw [lg_entry_eq]
  exact hbody s.heap [] _ hW va_S.rf hl
def W0 (y : MethodName) (cy : ByteArray) (nLy : Nat) (ret : Option FieldType) (n : Nat) : Prop := Cond.initialized y.cls ∈ gd ∧ Cond.code y cy nLy ret ∈ gd ∧ (y.cls ≠ "java/lang/invoke/MethodHandle" ∧ y.cls ≠ "java/lang/invoke/VarHandle" ∧ (parseMethodDescriptor y.desc).map (fun d => d.parameters.length) = some n) ∧ nLy ≤ 21
def WV (own : String) (idx : Nat) (y : MethodName) (cy : ByteArray) (nLy : Nat) (ret : Option FieldType) (n ci : Nat) : Prop := W0 y cy nLy ret n ∧ Cond.methodLink own idx y ∈ gd ∧ Cond.instanceMethod y ∈ gd ∧ Cond.selects y.cls y y ∈ gd ∧ ∃ (T : u_T) (N : Nat), vwCl[ci]? = some (y.cls, T, N)
def WS (own : String) (idx : Nat) (y : MethodName) (cy : ByteArray) (nLy : Nat) (ret : Option FieldType) (n : Nat) : Prop := W0 y cy nLy ret n ∧ Cond.methodLink own idx y ∈ gd ∧ Cond.static y ∈ gd ∧ y.cls = own
def WI (own : String) (idx : Nat) (y : MethodName) (cy : ByteArray) (nLy : Nat) (n : Nat) : Prop := W0 y cy nLy none n ∧ Cond.methodLink own idx y ∈ gd ∧ Cond.instanceMethod y ∈ gd ∧ y.name = "<init>"
theorem good_sub {ws : List Cond} (h : ∀ w ∈ ws, w ∈ gd) : GoodIn gd ws := fun w hw => ⟨h w hw, gd_good w (h w hw)⟩
theorem in_cons {w0 : Cond} (h : w0 ∈ gd) : ∀ w ∈ w0 :: gd, w ∈ gd := fun w hw => (List.mem_cons.mp hw).elim (fun e => e ▸ h) id
section GC
variable {E : EN} {cc : ByteArray} {own : String} {lev cl sl : Nat} {ad : Nat → Nat} {dm : Nat → Bool} {a : Nat → Nat → Int32} {b : Nat → Nat → Int64} {r : Nat → Nat → Option Nat} {pc q : Nat} {lo : List (Option Value)} {rest : List Value}
/-- behind a call -/
theorem g_back {st : List Value} {mc ms : Nat} {P : PO} {x : Array Value} (hS9 : ∀ H locs ls, Wd (eG E) (eB E) ad dm a b r H → lh ls (eN E) lo → va_Run E.2.2.1.1 (eL E) E.2.2.1.2.2.1 (eR E) (eS E) (eM E) (eA E) (eW E) (eH E) (eC E) H locs cl sl mc ms (F0 (eM E) pc ls st) rest (QP (eG E) (eB E) P x) (fun q => eB E ≤ q)) (hq : pc + 3 = q)
    (kk : ∀ v ad' dm' a' b' r', P v ad' dm' a' b' r' → G E (cl + mc) (sl + ms) ad' dm' a' b' r' q lo (v.toList ++ rest)) : G E cl sl ad dm a b r pc lo st := fun H L ls hW hS hl T hT X => by
  subst hq
  obtain ⟨v, st₀, t, T', L', h0, X', hL, e1, e2, ⟨⟨v', ad', dm', a', b', r', hv, hP, hWt⟩, hz, hk⟩, st⟩ := hS9 H L ls hW hl T hT X
  cases hv
  rw [h0] at hz hk
  obtain ⟨t2, a1, b1⟩ := kk v ad' dm' a' b' r' hP T'.heap (L ++ L') ls (by rw [e1]; exact hWt) ⟨Nat.le_trans hS.1 (by rw [e1]; exact hz), fun q h1 h2 => by rw [e1, hk q (Nat.lt_of_lt_of_le h1 hS.1) h2]; exact hS.2.1 q h1 h2, fun q hq => by
      rcases List.mem_append.mp hq with h | h
      · exact hS.2.2 q h
      · exact hL q h⟩ hl T' rfl X'
  exact ⟨t2, st t2 a1, b1⟩
theorem g_callV {idx nLy n ci nm lev' mc ms : Nat} {y : MethodName} {cy : ByteArray} {ret : Option FieldType} {As st : List Value} {P : PO} (C : CX E cc own lev) (w : WV own idx y cy nLy ret n ci) (hM : MT (eG E) (eB E) (eL E) y cy nLy ret lev' mc ms (.ref (ad nm) :: As) ad dm a b r P) (hlev : lev' < lev) (hl : ly nm = .inl ci) (hd : dm nm = true) (d : decode cc pc = .ok (.invokevirtual idx, 3)) (hq : pc + 3 = q) (hn : As.length = n) (hst : st = As.reverse ++ .ref (ad nm) :: rest) (hr : (rest.map fun v => v.category).sum ≤ 8) (hcs : cl + mc ≤ (eR E).cells ∧ sl + ms ≤ (eR E).slots)
    (kk : ∀ v ad' dm' a' b' r', P v ad' dm' a' b' r' → G E (cl + mc) (sl + ms) ad' dm' a' b' r' q lo (v.toList ++ rest)) : G E cl sl ad dm a b r pc lo st := by
  obtain ⟨⟨w1, w2, w3, w4⟩, w5, w6, w7, T, N, w8⟩ := w
  obtain ⟨hx, hb, hml, hown, hts, hK, hf, hlc⟩ := C
  subst hst
  refine g_back (x := (Value.ref (ad nm) :: As).toArray) (fun H L ls hW hl' => ?_) hq kk
  have hat := (hW.2.1 nm hd).2
  rw [ce_o hl] at hat
  obtain ⟨q', g0, cell, g1, g2, g3, -⟩ := hat
  exact va_runV (As := As) (rest := rest) (b := ad nm) (C := y.cls) ⟨hx, hb, hml, hown, hts⟩ hM (cwV n hts (good_sub (by
    intro z hz
    unfold wsV at hz
    rcases List.mem_append.mp hz with hz | hz
    · simp at hz
      rcases hz with rfl | rfl | rfl | rfl
      · exact w5
      · exact w6
      · exact w7
      · exact w1
    · exact in_cons w2 z hz)) rfl rfl rfl ⟨rfl, w3⟩ (by constructor <;> dsimp only <;> omega)) ⟨PC_blind, ⟨cell, g1, by rw [g3]; rfl, by rw [g2]; exact (hK.1 ci _ w8).2.1⟩, fun U hU hWm => ⟨rfl, by rw [hU]; exact hW, va_K.moved hWm.alike hK⟩⟩ rfl hn hl'.1 rfl (lv_room hr) d hcs
theorem g_callS {idx nLy n lev' mc ms : Nat} {y : MethodName} {cy : ByteArray} {ret : Option FieldType} {As st : List Value} {P : PO} (C : CX E cc own lev) (w : WS own idx y cy nLy ret n) (hM : MT (eG E) (eB E) (eL E) y cy nLy ret lev' mc ms As ad dm a b r P) (hlev : lev' < lev) (d : decode cc pc = .ok (.invokestatic idx, 3)) (hq : pc + 3 = q) (hn : As.length = n) (hst : st = As.reverse ++ rest) (hr : (rest.map fun v => v.category).sum ≤ 8) (hcs : cl + mc ≤ (eR E).cells ∧ sl + ms ≤ (eR E).slots)
    (kk : ∀ v ad' dm' a' b' r', P v ad' dm' a' b' r' → G E (cl + mc) (sl + ms) ad' dm' a' b' r' q lo (v.toList ++ rest)) : G E cl sl ad dm a b r pc lo st := by
  obtain ⟨⟨w1, w2, w3, w4⟩, w5, w6, w7⟩ := w
  obtain ⟨hx, hb, hml, hown, hts, hK, hf, hlc⟩ := C
  subst hst
  refine g_back (x := As.toArray) (fun H L ls hW hl' => ?_) hq kk
  exact va_runS (As := As) (rest := rest) ⟨hx, hb, hml, hown, hts⟩ hM (cwS n hts (good_sub (by
    intro z hz
    unfold wsS at hz
    rcases List.mem_append.mp hz with hz | hz
    · simp at hz
      rcases hz with rfl | rfl | rfl
      · exact w5
      · exact w6
      · rw [← w7]; exact w1
    · exact in_cons w2 z hz)) rfl rfl rfl ⟨w7, w3⟩ (by constructor <;> dsimp only <;> omega)) ⟨PC_blind, fun U hU hWm => ⟨rfl, by rw [hU]; exact hW, va_K.moved hWm.alike hK⟩⟩ rfl hn hl'.1 rfl (lv_room hr) d hcs
theorem g_callI {idx nLy n lev' mc ms bb : Nat} {y : MethodName} {cy : ByteArray} {As st : List Value} {P : PO} (C : CX E cc own lev) (w : WI own idx y cy nLy n) (hM : MT (eG E) (eB E) (eL E) y cy nLy none lev' mc ms (.ref bb :: As) ad dm a b r P) (hlev : lev' < lev) (d : decode cc pc = .ok (.invokespecial idx, 3)) (hq : pc + 3 = q) (hn : As.length = n) (hst : st = As.reverse ++ .ref bb :: rest) (hr : (rest.map fun v => v.category).sum ≤ 8) (hcs : cl + mc ≤ (eR E).cells ∧ sl + ms ≤ (eR E).slots)
    (kk : ∀ v ad' dm' a' b' r', P v ad' dm' a' b' r' → G E (cl + mc) (sl + ms) ad' dm' a' b' r' q lo (v.toList ++ rest)) : G E cl sl ad dm a b r pc lo st := by
  obtain ⟨⟨w1, w2, w3, w4⟩, w5, w6, w7⟩ := w
  obtain ⟨hx, hb, hml, hown, hts, hK, hf, hlc⟩ := C
  subst hst
  refine g_back (x := (Value.ref bb :: As).toArray) (fun H L ls hW hl' => ?_) hq kk
  exact va_runI (As := As) (rest := rest) (b := bb) ⟨hx, hb, hml, hown, hts⟩ hM (cwI n hts (good_sub (in_cons w2)) rfl rfl rfl (hts _ w1) (hts _ w5) (hts _ w6) w7 w3 (by constructor <;> dsimp only <;> omega)) ⟨PC_blind, fun U hU hWm => ⟨rfl, by rw [hU]; exact hW, va_K.moved hWm.alike hK⟩⟩ rfl hn hl'.1 rfl (lv_room hr) d hcs

theorem g_cv0i {idx nLy ci nm lev' : Nat} {y : MethodName} {cy : ByteArray} {ret : Option FieldType} {v : Value} {a' : Nat → Nat → Int32} {b' : Nat → Nat → Int64} {r' : Nat → Nat → Option Nat} (C : CX E cc own lev) (w : WV own idx y cy nLy ret 0 ci) (d : decode cc pc = .ok (.invokevirtual idx, 3)) (hq : pc + 3 = q) (hl : ly nm = .inl ci) (hd : dm nm = true) (hM : MT (eG E) (eB E) (eL E) y cy nLy ret lev' 0 0 [.ref (ad nm)] ad dm a b r (PX (some v) ad dm a' b' r')) (hlev : lev' < lev) (hr : (rest.map fun v => v.category).sum ≤ 8) (hcs : cl ≤ (eR E).cells ∧ sl ≤ (eR E).slots) (kk : G E cl sl ad dm a' b' r' q lo (v :: rest)) : G E cl sl ad dm a b r pc lo (.ref (ad nm) :: rest) :=
  g_callV C w hM hlev hl hd d hq rfl rfl hr hcs (fun v0 ad0 dm0 a0 b0 r0 h => by obtain ⟨rfl, rfl, rfl, rfl, rfl, rfl⟩ := h; exact kk)
theorem g_cv0v {idx nLy ci nm lev' : Nat} {y : MethodName} {cy : ByteArray} {ret : Option FieldType} {a' : Nat → Nat → Int32} {b' : Nat → Nat → Int64} {r' : Nat → Nat → Option Nat} (C : CX E cc own lev) (w : WV own idx y cy nLy ret 0 ci) (d : decode cc pc = .ok (.invokevirtual idx, 3)) (hq : pc + 3 = q) (hl : ly nm = .inl ci) (hd : dm nm = true) (hM : MT (eG E) (eB E) (eL E) y cy nLy ret lev' 0 0 [.ref (ad nm)] ad dm a b r (PX none ad dm a' b' r')) (hlev : lev' < lev) (hr : (rest.map fun v => v.category).sum ≤ 8) (hcs : cl ≤ (eR E).cells ∧ sl ≤ (eR E).slots) (kk : G E cl sl ad dm a' b' r' q lo rest) : G E cl sl ad dm a b r pc lo (.ref (ad nm) :: rest) :=
  g_callV C w hM hlev hl hd d hq rfl rfl hr hcs (fun v0 ad0 dm0 a0 b0 r0 h => by obtain ⟨rfl, rfl, rfl, rfl, rfl, rfl⟩ := h; exact kk)
theorem g_cv0g {idx nLy ci nm lev' mc ms : Nat} {y : MethodName} {cy : ByteArray} {ret : Option FieldType} {P : PO} (C : CX E cc own lev) (w : WV own idx y cy nLy ret 0 ci) (d : decode cc pc = .ok (.invokevirtual idx, 3)) (hq : pc + 3 = q) (hl : ly nm = .inl ci) (hd : dm nm = true) (hM : MT (eG E) (eB E) (eL E) y cy nLy ret lev' mc ms [.ref (ad nm)] ad dm a b r P) (hlev : lev' < lev) (hr : (rest.map fun v => v.category).sum ≤ 8) (hcs : cl + mc ≤ (eR E).cells ∧ sl + ms ≤ (eR E).slots) (kk : ∀ v ad' dm' a' b' r', P v ad' dm' a' b' r' → G E (cl + mc) (sl + ms) ad' dm' a' b' r' q lo (v.toList ++ rest)) : G E cl sl ad dm a b r pc lo (.ref (ad nm) :: rest) :=
  g_callV C w hM hlev hl hd d hq rfl rfl hr hcs kk
theorem g_cs0i {idx nLy lev' : Nat} {y : MethodName} {cy : ByteArray} {ret : Option FieldType} {v : Value} {a' : Nat → Nat → Int32} {b' : Nat → Nat → Int64} {r' : Nat → Nat → Option Nat} (C : CX E cc own lev) (w : WS own idx y cy nLy ret 0) (d : decode cc pc = .ok (.invokestatic idx, 3)) (hq : pc + 3 = q) (hM : MT (eG E) (eB E) (eL E) y cy nLy ret lev' 0 0 [] ad dm a b r (PX (some v) ad dm a' b' r')) (hlev : lev' < lev) (hr : (rest.map fun v => v.category).sum ≤ 8) (hcs : cl ≤ (eR E).cells ∧ sl ≤ (eR E).slots) (kk : G E cl sl ad dm a' b' r' q lo (v :: rest)) : G E cl sl ad dm a b r pc lo (rest) :=
  g_callS C w hM hlev d hq rfl rfl hr hcs (fun v0 ad0 dm0 a0 b0 r0 h => by obtain ⟨rfl, rfl, rfl, rfl, rfl, rfl⟩ := h; exact kk)
theorem g_ci0g {idx nLy nm lev' mc ms : Nat} {y : MethodName} {cy : ByteArray} {P : PO} (C : CX E cc own lev) (w : WI own idx y cy nLy 0) (d : decode cc pc = .ok (.invokespecial idx, 3)) (hq : pc + 3 = q) (hM : MT (eG E) (eB E) (eL E) y cy nLy none lev' mc ms [.ref (ad nm)] ad dm a b r P) (hlev : lev' < lev) (hr : (rest.map fun v => v.category).sum ≤ 8) (hcs : cl + mc ≤ (eR E).cells ∧ sl + ms ≤ (eR E).slots) (kk : ∀ v ad' dm' a' b' r', P v ad' dm' a' b' r' → G E (cl + mc) (sl + ms) ad' dm' a' b' r' q lo (v.toList ++ rest)) : G E cl sl ad dm a b r pc lo (.ref (ad nm) :: rest) :=
  g_callI C w hM hlev d hq rfl rfl hr hcs kk
theorem g_cv1i {idx nLy ci nm lev' : Nat} {y : MethodName} {cy : ByteArray} {ret : Option FieldType} {x1 : Value} {v : Value} {a' : Nat → Nat → Int32} {b' : Nat → Nat → Int64} {r' : Nat → Nat → Option Nat} (C : CX E cc own lev) (w : WV own idx y cy nLy ret 1 ci) (d : decode cc pc = .ok (.invokevirtual idx, 3)) (hq : pc + 3 = q) (hl : ly nm = .inl ci) (hd : dm nm = true) (hM : MT (eG E) (eB E) (eL E) y cy nLy ret lev' 0 0 [.ref (ad nm), x1] ad dm a b r (PX (some v) ad dm a' b' r')) (hlev : lev' < lev) (hr : (rest.map fun v => v.category).sum ≤ 8) (hcs : cl ≤ (eR E).cells ∧ sl ≤ (eR E).slots) (kk : G E cl sl ad dm a' b' r' q lo (v :: rest)) : G E cl sl ad dm a b r pc lo (x1 :: .ref (ad nm) :: rest) :=
  g_callV C w hM hlev hl hd d hq rfl rfl hr hcs (fun v0 ad0 dm0 a0 b0 r0 h => by obtain ⟨rfl, rfl, rfl, rfl, rfl, rfl⟩ := h; exact kk)
theorem g_cv1v {idx nLy ci nm lev' : Nat} {y : MethodName} {cy : ByteArray} {ret : Option FieldType} {x1 : Value} {a' : Nat → Nat → Int32} {b' : Nat → Nat → Int64} {r' : Nat → Nat → Option Nat} (C : CX E cc own lev) (w : WV own idx y cy nLy ret 1 ci) (d : decode cc pc = .ok (.invokevirtual idx, 3)) (hq : pc + 3 = q) (hl : ly nm = .inl ci) (hd : dm nm = true) (hM : MT (eG E) (eB E) (eL E) y cy nLy ret lev' 0 0 [.ref (ad nm), x1] ad dm a b r (PX none ad dm a' b' r')) (hlev : lev' < lev) (hr : (rest.map fun v => v.category).sum ≤ 8) (hcs : cl ≤ (eR E).cells ∧ sl ≤ (eR E).slots) (kk : G E cl sl ad dm a' b' r' q lo rest) : G E cl sl ad dm a b r pc lo (x1 :: .ref (ad nm) :: rest) :=
  g_callV C w hM hlev hl hd d hq rfl rfl hr hcs (fun v0 ad0 dm0 a0 b0 r0 h => by obtain ⟨rfl, rfl, rfl, rfl, rfl, rfl⟩ := h; exact kk)
theorem g_cv1g {idx nLy ci nm lev' mc ms : Nat} {y : MethodName} {cy : ByteArray} {ret : Option FieldType} {x1 : Value} {P : PO} (C : CX E cc own lev) (w : WV own idx y cy nLy ret 1 ci) (d : decode cc pc = .ok (.invokevirtual idx, 3)) (hq : pc + 3 = q) (hl : ly nm = .inl ci) (hd : dm nm = true) (hM : MT (eG E) (eB E) (eL E) y cy nLy ret lev' mc ms [.ref (ad nm), x1] ad dm a b r P) (hlev : lev' < lev) (hr : (rest.map fun v => v.category).sum ≤ 8) (hcs : cl + mc ≤ (eR E).cells ∧ sl + ms ≤ (eR E).slots) (kk : ∀ v ad' dm' a' b' r', P v ad' dm' a' b' r' → G E (cl + mc) (sl + ms) ad' dm' a' b' r' q lo (v.toList ++ rest)) : G E cl sl ad dm a b r pc lo (x1 :: .ref (ad nm) :: rest) :=
  g_callV C w hM hlev hl hd d hq rfl rfl hr hcs kk
theorem g_cs1i {idx nLy lev' : Nat} {y : MethodName} {cy : ByteArray} {ret : Option FieldType} {x1 : Value} {v : Value} {a' : Nat → Nat → Int32} {b' : Nat → Nat → Int64} {r' : Nat → Nat → Option Nat} (C : CX E cc own lev) (w : WS own idx y cy nLy ret 1) (d : decode cc pc = .ok (.invokestatic idx, 3)) (hq : pc + 3 = q) (hM : MT (eG E) (eB E) (eL E) y cy nLy ret lev' 0 0 [x1] ad dm a b r (PX (some v) ad dm a' b' r')) (hlev : lev' < lev) (hr : (rest.map fun v => v.category).sum ≤ 8) (hcs : cl ≤ (eR E).cells ∧ sl ≤ (eR E).slots) (kk : G E cl sl ad dm a' b' r' q lo (v :: rest)) : G E cl sl ad dm a b r pc lo (x1 :: rest) :=
  g_callS C w hM hlev d hq rfl rfl hr hcs (fun v0 ad0 dm0 a0 b0 r0 h => by obtain ⟨rfl, rfl, rfl, rfl, rfl, rfl⟩ := h; exact kk)
theorem g_ci1g {idx nLy nm lev' mc ms : Nat} {y : MethodName} {cy : ByteArray} {x1 : Value} {P : PO} (C : CX E cc own lev) (w : WI own idx y cy nLy 1) (d : decode cc pc = .ok (.invokespecial idx, 3)) (hq : pc + 3 = q) (hM : MT (eG E) (eB E) (eL E) y cy nLy none lev' mc ms [.ref (ad nm), x1] ad dm a b r P) (hlev : lev' < lev) (hr : (rest.map fun v => v.category).sum ≤ 8) (hcs : cl + mc ≤ (eR E).cells ∧ sl + ms ≤ (eR E).slots) (kk : ∀ v ad' dm' a' b' r', P v ad' dm' a' b' r' → G E (cl + mc) (sl + ms) ad' dm' a' b' r' q lo (v.toList ++ rest)) : G E cl sl ad dm a b r pc lo (x1 :: .ref (ad nm) :: rest) :=
  g_callI C w hM hlev d hq rfl rfl hr hcs kk
theorem g_cv2i {idx nLy ci nm lev' : Nat} {y : MethodName} {cy : ByteArray} {ret : Option FieldType} {x1 x2 : Value} {v : Value} {a' : Nat → Nat → Int32} {b' : Nat → Nat → Int64} {r' : Nat → Nat → Option Nat} (C : CX E cc own lev) (w : WV own idx y cy nLy ret 2 ci) (d : decode cc pc = .ok (.invokevirtual idx, 3)) (hq : pc + 3 = q) (hl : ly nm = .inl ci) (hd : dm nm = true) (hM : MT (eG E) (eB E) (eL E) y cy nLy ret lev' 0 0 [.ref (ad nm), x1, x2] ad dm a b r (PX (some v) ad dm a' b' r')) (hlev : lev' < lev) (hr : (rest.map fun v => v.category).sum ≤ 8) (hcs : cl ≤ (eR E).cells ∧ sl ≤ (eR E).slots) (kk : G E cl sl ad dm a' b' r' q lo (v :: rest)) : G E cl sl ad dm a b r pc lo (x2 :: x1 :: .ref (ad nm) :: rest) :=
  g_callV C w hM hlev hl hd d hq rfl rfl hr hcs (fun v0 ad0 dm0 a0 b0 r0 h => by obtain ⟨rfl, rfl, rfl, rfl, rfl, rfl⟩ := h; exact kk)
theorem g_cv2v {idx nLy ci nm lev' : Nat} {y : MethodName} {cy : ByteArray} {ret : Option FieldType} {x1 x2 : Value} {a' : Nat → Nat → Int32} {b' : Nat → Nat → Int64} {r' : Nat → Nat → Option Nat} (C : CX E cc own lev) (w : WV own idx y cy nLy ret 2 ci) (d : decode cc pc = .ok (.invokevirtual idx, 3)) (hq : pc + 3 = q) (hl : ly nm = .inl ci) (hd : dm nm = true) (hM : MT (eG E) (eB E) (eL E) y cy nLy ret lev' 0 0 [.ref (ad nm), x1, x2] ad dm a b r (PX none ad dm a' b' r')) (hlev : lev' < lev) (hr : (rest.map fun v => v.category).sum ≤ 8) (hcs : cl ≤ (eR E).cells ∧ sl ≤ (eR E).slots) (kk : G E cl sl ad dm a' b' r' q lo rest) : G E cl sl ad dm a b r pc lo (x2 :: x1 :: .ref (ad nm) :: rest) :=
  g_callV C w hM hlev hl hd d hq rfl rfl hr hcs (fun v0 ad0 dm0 a0 b0 r0 h => by obtain ⟨rfl, rfl, rfl, rfl, rfl, rfl⟩ := h; exact kk)
theorem g_cv2g {idx nLy ci nm lev' mc ms : Nat} {y : MethodName} {cy : ByteArray} {ret : Option FieldType} {x1 x2 : Value} {P : PO} (C : CX E cc own lev) (w : WV own idx y cy nLy ret 2 ci) (d : decode cc pc = .ok (.invokevirtual idx, 3)) (hq : pc + 3 = q) (hl : ly nm = .inl ci) (hd : dm nm = true) (hM : MT (eG E) (eB E) (eL E) y cy nLy ret lev' mc ms [.ref (ad nm), x1, x2] ad dm a b r P) (hlev : lev' < lev) (hr : (rest.map fun v => v.category).sum ≤ 8) (hcs : cl + mc ≤ (eR E).cells ∧ sl + ms ≤ (eR E).slots) (kk : ∀ v ad' dm' a' b' r', P v ad' dm' a' b' r' → G E (cl + mc) (sl + ms) ad' dm' a' b' r' q lo (v.toList ++ rest)) : G E cl sl ad dm a b r pc lo (x2 :: x1 :: .ref (ad nm) :: rest) :=
  g_callV C w hM hlev hl hd d hq rfl rfl hr hcs kk
theorem g_cs2i {idx nLy lev' : Nat} {y : MethodName} {cy : ByteArray} {ret : Option FieldType} {x1 x2 : Value} {v : Value} {a' : Nat → Nat → Int32} {b' : Nat → Nat → Int64} {r' : Nat → Nat → Option Nat} (C : CX E cc own lev) (w : WS own idx y cy nLy ret 2) (d : decode cc pc = .ok (.invokestatic idx, 3)) (hq : pc + 3 = q) (hM : MT (eG E) (eB E) (eL E) y cy nLy ret lev' 0 0 [x1, x2] ad dm a b r (PX (some v) ad dm a' b' r')) (hlev : lev' < lev) (hr : (rest.map fun v => v.category).sum ≤ 8) (hcs : cl ≤ (eR E).cells ∧ sl ≤ (eR E).slots) (kk : G E cl sl ad dm a' b' r' q lo (v :: rest)) : G E cl sl ad dm a b r pc lo (x2 :: x1 :: rest) :=
  g_callS C w hM hlev d hq rfl rfl hr hcs (fun v0 ad0 dm0 a0 b0 r0 h => by obtain ⟨rfl, rfl, rfl, rfl, rfl, rfl⟩ := h; exact kk)
theorem g_ci2g {idx nLy nm lev' mc ms : Nat} {y : MethodName} {cy : ByteArray} {x1 x2 : Value} {P : PO} (C : CX E cc own lev) (w : WI own idx y cy nLy 2) (d : decode cc pc = .ok (.invokespecial idx, 3)) (hq : pc + 3 = q) (hM : MT (eG E) (eB E) (eL E) y cy nLy none lev' mc ms [.ref (ad nm), x1, x2] ad dm a b r P) (hlev : lev' < lev) (hr : (rest.map fun v => v.category).sum ≤ 8) (hcs : cl + mc ≤ (eR E).cells ∧ sl + ms ≤ (eR E).slots) (kk : ∀ v ad' dm' a' b' r', P v ad' dm' a' b' r' → G E (cl + mc) (sl + ms) ad' dm' a' b' r' q lo (v.toList ++ rest)) : G E cl sl ad dm a b r pc lo (x2 :: x1 :: .ref (ad nm) :: rest) :=
  g_callI C w hM hlev d hq rfl rfl hr hcs kk
theorem g_cv3i {idx nLy ci nm lev' : Nat} {y : MethodName} {cy : ByteArray} {ret : Option FieldType} {x1 x2 x3 : Value} {v : Value} {a' : Nat → Nat → Int32} {b' : Nat → Nat → Int64} {r' : Nat → Nat → Option Nat} (C : CX E cc own lev) (w : WV own idx y cy nLy ret 3 ci) (d : decode cc pc = .ok (.invokevirtual idx, 3)) (hq : pc + 3 = q) (hl : ly nm = .inl ci) (hd : dm nm = true) (hM : MT (eG E) (eB E) (eL E) y cy nLy ret lev' 0 0 [.ref (ad nm), x1, x2, x3] ad dm a b r (PX (some v) ad dm a' b' r')) (hlev : lev' < lev) (hr : (rest.map fun v => v.category).sum ≤ 8) (hcs : cl ≤ (eR E).cells ∧ sl ≤ (eR E).slots) (kk : G E cl sl ad dm a' b' r' q lo (v :: rest)) : G E cl sl ad dm a b r pc lo (x3 :: x2 :: x1 :: .ref (ad nm) :: rest) :=
  g_callV C w hM hlev hl hd d hq rfl rfl hr hcs (fun v0 ad0 dm0 a0 b0 r0 h => by obtain ⟨rfl, rfl, rfl, rfl, rfl, rfl⟩ := h; exact kk)
theorem g_cv3v {idx nLy ci nm lev' : Nat} {y : MethodName} {cy : ByteArray} {ret : Option FieldType} {x1 x2 x3 : Value} {a' : Nat → Nat → Int32} {b' : Nat → Nat → Int64} {r' : Nat → Nat → Option Nat} (C : CX E cc own lev) (w : WV own idx y cy nLy ret 3 ci) (d : decode cc pc = .ok (.invokevirtual idx, 3)) (hq : pc + 3 = q) (hl : ly nm = .inl ci) (hd : dm nm = true) (hM : MT (eG E) (eB E) (eL E) y cy nLy ret lev' 0 0 [.ref (ad nm), x1, x2, x3] ad dm a b r (PX none ad dm a' b' r')) (hlev : lev' < lev) (hr : (rest.map fun v => v.category).sum ≤ 8) (hcs : cl ≤ (eR E).cells ∧ sl ≤ (eR E).slots) (kk : G E cl sl ad dm a' b' r' q lo rest) : G E cl sl ad dm a b r pc lo (x3 :: x2 :: x1 :: .ref (ad nm) :: rest) :=
  g_callV C w hM hlev hl hd d hq rfl rfl hr hcs (fun v0 ad0 dm0 a0 b0 r0 h => by obtain ⟨rfl, rfl, rfl, rfl, rfl, rfl⟩ := h; exact kk)
theorem g_cv3g {idx nLy ci nm lev' mc ms : Nat} {y : MethodName} {cy : ByteArray} {ret : Option FieldType} {x1 x2 x3 : Value} {P : PO} (C : CX E cc own lev) (w : WV own idx y cy nLy ret 3 ci) (d : decode cc pc = .ok (.invokevirtual idx, 3)) (hq : pc + 3 = q) (hl : ly nm = .inl ci) (hd : dm nm = true) (hM : MT (eG E) (eB E) (eL E) y cy nLy ret lev' mc ms [.ref (ad nm), x1, x2, x3] ad dm a b r P) (hlev : lev' < lev) (hr : (rest.map fun v => v.category).sum ≤ 8) (hcs : cl + mc ≤ (eR E).cells ∧ sl + ms ≤ (eR E).slots) (kk : ∀ v ad' dm' a' b' r', P v ad' dm' a' b' r' → G E (cl + mc) (sl + ms) ad' dm' a' b' r' q lo (v.toList ++ rest)) : G E cl sl ad dm a b r pc lo (x3 :: x2 :: x1 :: .ref (ad nm) :: rest) :=
  g_callV C w hM hlev hl hd d hq rfl rfl hr hcs kk
theorem g_cs3i {idx nLy lev' : Nat} {y : MethodName} {cy : ByteArray} {ret : Option FieldType} {x1 x2 x3 : Value} {v : Value} {a' : Nat → Nat → Int32} {b' : Nat → Nat → Int64} {r' : Nat → Nat → Option Nat} (C : CX E cc own lev) (w : WS own idx y cy nLy ret 3) (d : decode cc pc = .ok (.invokestatic idx, 3)) (hq : pc + 3 = q) (hM : MT (eG E) (eB E) (eL E) y cy nLy ret lev' 0 0 [x1, x2, x3] ad dm a b r (PX (some v) ad dm a' b' r')) (hlev : lev' < lev) (hr : (rest.map fun v => v.category).sum ≤ 8) (hcs : cl ≤ (eR E).cells ∧ sl ≤ (eR E).slots) (kk : G E cl sl ad dm a' b' r' q lo (v :: rest)) : G E cl sl ad dm a b r pc lo (x3 :: x2 :: x1 :: rest) :=
  g_callS C w hM hlev d hq rfl rfl hr hcs (fun v0 ad0 dm0 a0 b0 r0 h => by obtain ⟨rfl, rfl, rfl, rfl, rfl, rfl⟩ := h; exact kk)
theorem g_ci3g {idx nLy nm lev' mc ms : Nat} {y : MethodName} {cy : ByteArray} {x1 x2 x3 : Value} {P : PO} (C : CX E cc own lev) (w : WI own idx y cy nLy 3) (d : decode cc pc = .ok (.invokespecial idx, 3)) (hq : pc + 3 = q) (hM : MT (eG E) (eB E) (eL E) y cy nLy none lev' mc ms [.ref (ad nm), x1, x2, x3] ad dm a b r P) (hlev : lev' < lev) (hr : (rest.map fun v => v.category).sum ≤ 8) (hcs : cl + mc ≤ (eR E).cells ∧ sl + ms ≤ (eR E).slots) (kk : ∀ v ad' dm' a' b' r', P v ad' dm' a' b' r' → G E (cl + mc) (sl + ms) ad' dm' a' b' r' q lo (v.toList ++ rest)) : G E cl sl ad dm a b r pc lo (x3 :: x2 :: x1 :: .ref (ad nm) :: rest) :=
  g_callI C w hM hlev d hq rfl rfl hr hcs kk
theorem g_cv4i {idx nLy ci nm lev' : Nat} {y : MethodName} {cy : ByteArray} {ret : Option FieldType} {x1 x2 x3 x4 : Value} {v : Value} {a' : Nat → Nat → Int32} {b' : Nat → Nat → Int64} {r' : Nat → Nat → Option Nat} (C : CX E cc own lev) (w : WV own idx y cy nLy ret 4 ci) (d : decode cc pc = .ok (.invokevirtual idx, 3)) (hq : pc + 3 = q) (hl : ly nm = .inl ci) (hd : dm nm = true) (hM : MT (eG E) (eB E) (eL E) y cy nLy ret lev' 0 0 [.ref (ad nm), x1, x2, x3, x4] ad dm a b r (PX (some v) ad dm a' b' r')) (hlev : lev' < lev) (hr : (rest.map fun v => v.category).sum ≤ 8) (hcs : cl ≤ (eR E).cells ∧ sl ≤ (eR E).slots) (kk : G E cl sl ad dm a' b' r' q lo (v :: rest)) : G E cl sl ad dm a b r pc lo (x4 :: x3 :: x2 :: x1 :: .ref (ad nm) :: rest) :=
  g_callV C w hM hlev hl hd d hq rfl rfl hr hcs (fun v0 ad0 dm0 a0 b0 r0 h => by obtain ⟨rfl, rfl, rfl, rfl, rfl, rfl⟩ := h; exact kk)
theorem g_cv4v {idx nLy ci nm lev' : Nat} {y : MethodName} {cy : ByteArray} {ret : Option FieldType} {x1 x2 x3 x4 : Value} {a' : Nat → Nat → Int32} {b' : Nat → Nat → Int64} {r' : Nat → Nat → Option Nat} (C : CX E cc own lev) (w : WV own idx y cy nLy ret 4 ci) (d : decode cc pc = .ok (.invokevirtual idx, 3)) (hq : pc + 3 = q) (hl : ly nm = .inl ci) (hd : dm nm = true) (hM : MT (eG E) (eB E) (eL E) y cy nLy ret lev' 0 0 [.ref (ad nm), x1, x2, x3, x4] ad dm a b r (PX none ad dm a' b' r')) (hlev : lev' < lev) (hr : (rest.map fun v => v.category).sum ≤ 8) (hcs : cl ≤ (eR E).cells ∧ sl ≤ (eR E).slots) (kk : G E cl sl ad dm a' b' r' q lo rest) : G E cl sl ad dm a b r pc lo (x4 :: x3 :: x2 :: x1 :: .ref (ad nm) :: rest) :=
  g_callV C w hM hlev hl hd d hq rfl rfl hr hcs (fun v0 ad0 dm0 a0 b0 r0 h => by obtain ⟨rfl, rfl, rfl, rfl, rfl, rfl⟩ := h; exact kk)
theorem g_cv4g {idx nLy ci nm lev' mc ms : Nat} {y : MethodName} {cy : ByteArray} {ret : Option FieldType} {x1 x2 x3 x4 : Value} {P : PO} (C : CX E cc own lev) (w : WV own idx y cy nLy ret 4 ci) (d : decode cc pc = .ok (.invokevirtual idx, 3)) (hq : pc + 3 = q) (hl : ly nm = .inl ci) (hd : dm nm = true) (hM : MT (eG E) (eB E) (eL E) y cy nLy ret lev' mc ms [.ref (ad nm), x1, x2, x3, x4] ad dm a b r P) (hlev : lev' < lev) (hr : (rest.map fun v => v.category).sum ≤ 8) (hcs : cl + mc ≤ (eR E).cells ∧ sl + ms ≤ (eR E).slots) (kk : ∀ v ad' dm' a' b' r', P v ad' dm' a' b' r' → G E (cl + mc) (sl + ms) ad' dm' a' b' r' q lo (v.toList ++ rest)) : G E cl sl ad dm a b r pc lo (x4 :: x3 :: x2 :: x1 :: .ref (ad nm) :: rest) :=
  g_callV C w hM hlev hl hd d hq rfl rfl hr hcs kk
theorem g_cs4i {idx nLy lev' : Nat} {y : MethodName} {cy : ByteArray} {ret : Option FieldType} {x1 x2 x3 x4 : Value} {v : Value} {a' : Nat → Nat → Int32} {b' : Nat → Nat → Int64} {r' : Nat → Nat → Option Nat} (C : CX E cc own lev) (w : WS own idx y cy nLy ret 4) (d : decode cc pc = .ok (.invokestatic idx, 3)) (hq : pc + 3 = q) (hM : MT (eG E) (eB E) (eL E) y cy nLy ret lev' 0 0 [x1, x2, x3, x4] ad dm a b r (PX (some v) ad dm a' b' r')) (hlev : lev' < lev) (hr : (rest.map fun v => v.category).sum ≤ 8) (hcs : cl ≤ (eR E).cells ∧ sl ≤ (eR E).slots) (kk : G E cl sl ad dm a' b' r' q lo (v :: rest)) : G E cl sl ad dm a b r pc lo (x4 :: x3 :: x2 :: x1 :: rest) :=
  g_callS C w hM hlev d hq rfl rfl hr hcs (fun v0 ad0 dm0 a0 b0 r0 h => by obtain ⟨rfl, rfl, rfl, rfl, rfl, rfl⟩ := h; exact kk)
theorem g_ci4g {idx nLy nm lev' mc ms : Nat} {y : MethodName} {cy : ByteArray} {x1 x2 x3 x4 : Value} {P : PO} (C : CX E cc own lev) (w : WI own idx y cy nLy 4) (d : decode cc pc = .ok (.invokespecial idx, 3)) (hq : pc + 3 = q) (hM : MT (eG E) (eB E) (eL E) y cy nLy none lev' mc ms [.ref (ad nm), x1, x2, x3, x4] ad dm a b r P) (hlev : lev' < lev) (hr : (rest.map fun v => v.category).sum ≤ 8) (hcs : cl + mc ≤ (eR E).cells ∧ sl + ms ≤ (eR E).slots) (kk : ∀ v ad' dm' a' b' r', P v ad' dm' a' b' r' → G E (cl + mc) (sl + ms) ad' dm' a' b' r' q lo (v.toList ++ rest)) : G E cl sl ad dm a b r pc lo (x4 :: x3 :: x2 :: x1 :: .ref (ad nm) :: rest) :=
  g_callI C w hM hlev d hq rfl rfl hr hcs kk
theorem g_cv5i {idx nLy ci nm lev' : Nat} {y : MethodName} {cy : ByteArray} {ret : Option FieldType} {x1 x2 x3 x4 x5 : Value} {v : Value} {a' : Nat → Nat → Int32} {b' : Nat → Nat → Int64} {r' : Nat → Nat → Option Nat} (C : CX E cc own lev) (w : WV own idx y cy nLy ret 5 ci) (d : decode cc pc = .ok (.invokevirtual idx, 3)) (hq : pc + 3 = q) (hl : ly nm = .inl ci) (hd : dm nm = true) (hM : MT (eG E) (eB E) (eL E) y cy nLy ret lev' 0 0 [.ref (ad nm), x1, x2, x3, x4, x5] ad dm a b r (PX (some v) ad dm a' b' r')) (hlev : lev' < lev) (hr : (rest.map fun v => v.category).sum ≤ 8) (hcs : cl ≤ (eR E).cells ∧ sl ≤ (eR E).slots) (kk : G E cl sl ad dm a' b' r' q lo (v :: rest)) : G E cl sl ad dm a b r pc lo (x5 :: x4 :: x3 :: x2 :: x1 :: .ref (ad nm) :: rest) :=
  g_callV C w hM hlev hl hd d hq rfl rfl hr hcs (fun v0 ad0 dm0 a0 b0 r0 h => by obtain ⟨rfl, rfl, rfl, rfl, rfl, rfl⟩ := h; exact kk)
theorem g_cv5v {idx nLy ci nm lev' : Nat} {y : MethodName} {cy : ByteArray} {ret : Option FieldType} {x1 x2 x3 x4 x5 : Value} {a' : Nat → Nat → Int32} {b' : Nat → Nat → Int64} {r' : Nat → Nat → Option Nat} (C : CX E cc own lev) (w : WV own idx y cy nLy ret 5 ci) (d : decode cc pc = .ok (.invokevirtual idx, 3)) (hq : pc + 3 = q) (hl : ly nm = .inl ci) (hd : dm nm = true) (hM : MT (eG E) (eB E) (eL E) y cy nLy ret lev' 0 0 [.ref (ad nm), x1, x2, x3, x4, x5] ad dm a b r (PX none ad dm a' b' r')) (hlev : lev' < lev) (hr : (rest.map fun v => v.category).sum ≤ 8) (hcs : cl ≤ (eR E).cells ∧ sl ≤ (eR E).slots) (kk : G E cl sl ad dm a' b' r' q lo rest) : G E cl sl ad dm a b r pc lo (x5 :: x4 :: x3 :: x2 :: x1 :: .ref (ad nm) :: rest) :=
  g_callV C w hM hlev hl hd d hq rfl rfl hr hcs (fun v0 ad0 dm0 a0 b0 r0 h => by obtain ⟨rfl, rfl, rfl, rfl, rfl, rfl⟩ := h; exact kk)
theorem g_cv5g {idx nLy ci nm lev' mc ms : Nat} {y : MethodName} {cy : ByteArray} {ret : Option FieldType} {x1 x2 x3 x4 x5 : Value} {P : PO} (C : CX E cc own lev) (w : WV own idx y cy nLy ret 5 ci) (d : decode cc pc = .ok (.invokevirtual idx, 3)) (hq : pc + 3 = q) (hl : ly nm = .inl ci) (hd : dm nm = true) (hM : MT (eG E) (eB E) (eL E) y cy nLy ret lev' mc ms [.ref (ad nm), x1, x2, x3, x4, x5] ad dm a b r P) (hlev : lev' < lev) (hr : (rest.map fun v => v.category).sum ≤ 8) (hcs : cl + mc ≤ (eR E).cells ∧ sl + ms ≤ (eR E).slots) (kk : ∀ v ad' dm' a' b' r', P v ad' dm' a' b' r' → G E (cl + mc) (sl + ms) ad' dm' a' b' r' q lo (v.toList ++ rest)) : G E cl sl ad dm a b r pc lo (x5 :: x4 :: x3 :: x2 :: x1 :: .ref (ad nm) :: rest) :=
  g_callV C w hM hlev hl hd d hq rfl rfl hr hcs kk
theorem g_cs5i {idx nLy lev' : Nat} {y : MethodName} {cy : ByteArray} {ret : Option FieldType} {x1 x2 x3 x4 x5 : Value} {v : Value} {a' : Nat → Nat → Int32} {b' : Nat → Nat → Int64} {r' : Nat → Nat → Option Nat} (C : CX E cc own lev) (w : WS own idx y cy nLy ret 5) (d : decode cc pc = .ok (.invokestatic idx, 3)) (hq : pc + 3 = q) (hM : MT (eG E) (eB E) (eL E) y cy nLy ret lev' 0 0 [x1, x2, x3, x4, x5] ad dm a b r (PX (some v) ad dm a' b' r')) (hlev : lev' < lev) (hr : (rest.map fun v => v.category).sum ≤ 8) (hcs : cl ≤ (eR E).cells ∧ sl ≤ (eR E).slots) (kk : G E cl sl ad dm a' b' r' q lo (v :: rest)) : G E cl sl ad dm a b r pc lo (x5 :: x4 :: x3 :: x2 :: x1 :: rest) :=
  g_callS C w hM hlev d hq rfl rfl hr hcs (fun v0 ad0 dm0 a0 b0 r0 h => by obtain ⟨rfl, rfl, rfl, rfl, rfl, rfl⟩ := h; exact kk)
theorem g_ci5g {idx nLy nm lev' mc ms : Nat} {y : MethodName} {cy : ByteArray} {x1 x2 x3 x4 x5 : Value} {P : PO} (C : CX E cc own lev) (w : WI own idx y cy nLy 5) (d : decode cc pc = .ok (.invokespecial idx, 3)) (hq : pc + 3 = q) (hM : MT (eG E) (eB E) (eL E) y cy nLy none lev' mc ms [.ref (ad nm), x1, x2, x3, x4, x5] ad dm a b r P) (hlev : lev' < lev) (hr : (rest.map fun v => v.category).sum ≤ 8) (hcs : cl + mc ≤ (eR E).cells ∧ sl + ms ≤ (eR E).slots) (kk : ∀ v ad' dm' a' b' r', P v ad' dm' a' b' r' → G E (cl + mc) (sl + ms) ad' dm' a' b' r' q lo (v.toList ++ rest)) : G E cl sl ad dm a b r pc lo (x5 :: x4 :: x3 :: x2 :: x1 :: .ref (ad nm) :: rest) :=
  g_callI C w hM hlev d hq rfl rfl hr hcs kk
theorem g_cv6i {idx nLy ci nm lev' : Nat} {y : MethodName} {cy : ByteArray} {ret : Option FieldType} {x1 x2 x3 x4 x5 x6 : Value} {v : Value} {a' : Nat → Nat → Int32} {b' : Nat → Nat → Int64} {r' : Nat → Nat → Option Nat} (C : CX E cc own lev) (w : WV own idx y cy nLy ret 6 ci) (d : decode cc pc = .ok (.invokevirtual idx, 3)) (hq : pc + 3 = q) (hl : ly nm = .inl ci) (hd : dm nm = true) (hM : MT (eG E) (eB E) (eL E) y cy nLy ret lev' 0 0 [.ref (ad nm), x1, x2, x3, x4, x5, x6] ad dm a b r (PX (some v) ad dm a' b' r')) (hlev : lev' < lev) (hr : (rest.map fun v => v.category).sum ≤ 8) (hcs : cl ≤ (eR E).cells ∧ sl ≤ (eR E).slots) (kk : G E cl sl ad dm a' b' r' q lo (v :: rest)) : G E cl sl ad dm a b r pc lo (x6 :: x5 :: x4 :: x3 :: x2 :: x1 :: .ref (ad nm) :: rest) :=
  g_callV C w hM hlev hl hd d hq rfl rfl hr hcs (fun v0 ad0 dm0 a0 b0 r0 h => by obtain ⟨rfl, rfl, rfl, rfl, rfl, rfl⟩ := h; exact kk)
theorem g_cv6v {idx nLy ci nm lev' : Nat} {y : MethodName} {cy : ByteArray} {ret : Option FieldType} {x1 x2 x3 x4 x5 x6 : Value} {a' : Nat → Nat → Int32} {b' : Nat → Nat → Int64} {r' : Nat → Nat → Option Nat} (C : CX E cc own lev) (w : WV own idx y cy nLy ret 6 ci) (d : decode cc pc = .ok (.invokevirtual idx, 3)) (hq : pc + 3 = q) (hl : ly nm = .inl ci) (hd : dm nm = true) (hM : MT (eG E) (eB E) (eL E) y cy nLy ret lev' 0 0 [.ref (ad nm), x1, x2, x3, x4, x5, x6] ad dm a b r (PX none ad dm a' b' r')) (hlev : lev' < lev) (hr : (rest.map fun v => v.category).sum ≤ 8) (hcs : cl ≤ (eR E).cells ∧ sl ≤ (eR E).slots) (kk : G E cl sl ad dm a' b' r' q lo rest) : G E cl sl ad dm a b r pc lo (x6 :: x5 :: x4 :: x3 :: x2 :: x1 :: .ref (ad nm) :: rest) :=
  g_callV C w hM hlev hl hd d hq rfl rfl hr hcs (fun v0 ad0 dm0 a0 b0 r0 h => by obtain ⟨rfl, rfl, rfl, rfl, rfl, rfl⟩ := h; exact kk)
theorem g_cv6g {idx nLy ci nm lev' mc ms : Nat} {y : MethodName} {cy : ByteArray} {ret : Option FieldType} {x1 x2 x3 x4 x5 x6 : Value} {P : PO} (C : CX E cc own lev) (w : WV own idx y cy nLy ret 6 ci) (d : decode cc pc = .ok (.invokevirtual idx, 3)) (hq : pc + 3 = q) (hl : ly nm = .inl ci) (hd : dm nm = true) (hM : MT (eG E) (eB E) (eL E) y cy nLy ret lev' mc ms [.ref (ad nm), x1, x2, x3, x4, x5, x6] ad dm a b r P) (hlev : lev' < lev) (hr : (rest.map fun v => v.category).sum ≤ 8) (hcs : cl + mc ≤ (eR E).cells ∧ sl + ms ≤ (eR E).slots) (kk : ∀ v ad' dm' a' b' r', P v ad' dm' a' b' r' → G E (cl + mc) (sl + ms) ad' dm' a' b' r' q lo (v.toList ++ rest)) : G E cl sl ad dm a b r pc lo (x6 :: x5 :: x4 :: x3 :: x2 :: x1 :: .ref (ad nm) :: rest) :=
  g_callV C w hM hlev hl hd d hq rfl rfl hr hcs kk
theorem g_cs6i {idx nLy lev' : Nat} {y : MethodName} {cy : ByteArray} {ret : Option FieldType} {x1 x2 x3 x4 x5 x6 : Value} {v : Value} {a' : Nat → Nat → Int32} {b' : Nat → Nat → Int64} {r' : Nat → Nat → Option Nat} (C : CX E cc own lev) (w : WS own idx y cy nLy ret 6) (d : decode cc pc = .ok (.invokestatic idx, 3)) (hq : pc + 3 = q) (hM : MT (eG E) (eB E) (eL E) y cy nLy ret lev' 0 0 [x1, x2, x3, x4, x5, x6] ad dm a b r (PX (some v) ad dm a' b' r')) (hlev : lev' < lev) (hr : (rest.map fun v => v.category).sum ≤ 8) (hcs : cl ≤ (eR E).cells ∧ sl ≤ (eR E).slots) (kk : G E cl sl ad dm a' b' r' q lo (v :: rest)) : G E cl sl ad dm a b r pc lo (x6 :: x5 :: x4 :: x3 :: x2 :: x1 :: rest) :=
  g_callS C w hM hlev d hq rfl rfl hr hcs (fun v0 ad0 dm0 a0 b0 r0 h => by obtain ⟨rfl, rfl, rfl, rfl, rfl, rfl⟩ := h; exact kk)
theorem g_ci6g {idx nLy nm lev' mc ms : Nat} {y : MethodName} {cy : ByteArray} {x1 x2 x3 x4 x5 x6 : Value} {P : PO} (C : CX E cc own lev) (w : WI own idx y cy nLy 6) (d : decode cc pc = .ok (.invokespecial idx, 3)) (hq : pc + 3 = q) (hM : MT (eG E) (eB E) (eL E) y cy nLy none lev' mc ms [.ref (ad nm), x1, x2, x3, x4, x5, x6] ad dm a b r P) (hlev : lev' < lev) (hr : (rest.map fun v => v.category).sum ≤ 8) (hcs : cl + mc ≤ (eR E).cells ∧ sl + ms ≤ (eR E).slots) (kk : ∀ v ad' dm' a' b' r', P v ad' dm' a' b' r' → G E (cl + mc) (sl + ms) ad' dm' a' b' r' q lo (v.toList ++ rest)) : G E cl sl ad dm a b r pc lo (x6 :: x5 :: x4 :: x3 :: x2 :: x1 :: .ref (ad nm) :: rest) :=
  g_callI C w hM hlev d hq rfl rfl hr hcs kk
theorem g_cv7i {idx nLy ci nm lev' : Nat} {y : MethodName} {cy : ByteArray} {ret : Option FieldType} {x1 x2 x3 x4 x5 x6 x7 : Value} {v : Value} {a' : Nat → Nat → Int32} {b' : Nat → Nat → Int64} {r' : Nat → Nat → Option Nat} (C : CX E cc own lev) (w : WV own idx y cy nLy ret 7 ci) (d : decode cc pc = .ok (.invokevirtual idx, 3)) (hq : pc + 3 = q) (hl : ly nm = .inl ci) (hd : dm nm = true) (hM : MT (eG E) (eB E) (eL E) y cy nLy ret lev' 0 0 [.ref (ad nm), x1, x2, x3, x4, x5, x6, x7] ad dm a b r (PX (some v) ad dm a' b' r')) (hlev : lev' < lev) (hr : (rest.map fun v => v.category).sum ≤ 8) (hcs : cl ≤ (eR E).cells ∧ sl ≤ (eR E).slots) (kk : G E cl sl ad dm a' b' r' q lo (v :: rest)) : G E cl sl ad dm a b r pc lo (x7 :: x6 :: x5 :: x4 :: x3 :: x2 :: x1 :: .ref (ad nm) :: rest) :=
  g_callV C w hM hlev hl hd d hq rfl rfl hr hcs (fun v0 ad0 dm0 a0 b0 r0 h => by obtain ⟨rfl, rfl, rfl, rfl, rfl, rfl⟩ := h; exact kk)
theorem g_cv7v {idx nLy ci nm lev' : Nat} {y : MethodName} {cy : ByteArray} {ret : Option FieldType} {x1 x2 x3 x4 x5 x6 x7 : Value} {a' : Nat → Nat → Int32} {b' : Nat → Nat → Int64} {r' : Nat → Nat → Option Nat} (C : CX E cc own lev) (w : WV own idx y cy nLy ret 7 ci) (d : decode cc pc = .ok (.invokevirtual idx, 3)) (hq : pc + 3 = q) (hl : ly nm = .inl ci) (hd : dm nm = true) (hM : MT (eG E) (eB E) (eL E) y cy nLy ret lev' 0 0 [.ref (ad nm), x1, x2, x3, x4, x5, x6, x7] ad dm a b r (PX none ad dm a' b' r')) (hlev : lev' < lev) (hr : (rest.map fun v => v.category).sum ≤ 8) (hcs : cl ≤ (eR E).cells ∧ sl ≤ (eR E).slots) (kk : G E cl sl ad dm a' b' r' q lo rest) : G E cl sl ad dm a b r pc lo (x7 :: x6 :: x5 :: x4 :: x3 :: x2 :: x1 :: .ref (ad nm) :: rest) :=
  g_callV C w hM hlev hl hd d hq rfl rfl hr hcs (fun v0 ad0 dm0 a0 b0 r0 h => by obtain ⟨rfl, rfl, rfl, rfl, rfl, rfl⟩ := h; exact kk)
theorem g_cv7g {idx nLy ci nm lev' mc ms : Nat} {y : MethodName} {cy : ByteArray} {ret : Option FieldType} {x1 x2 x3 x4 x5 x6 x7 : Value} {P : PO} (C : CX E cc own lev) (w : WV own idx y cy nLy ret 7 ci) (d : decode cc pc = .ok (.invokevirtual idx, 3)) (hq : pc + 3 = q) (hl : ly nm = .inl ci) (hd : dm nm = true) (hM : MT (eG E) (eB E) (eL E) y cy nLy ret lev' mc ms [.ref (ad nm), x1, x2, x3, x4, x5, x6, x7] ad dm a b r P) (hlev : lev' < lev) (hr : (rest.map fun v => v.category).sum ≤ 8) (hcs : cl + mc ≤ (eR E).cells ∧ sl + ms ≤ (eR E).slots) (kk : ∀ v ad' dm' a' b' r', P v ad' dm' a' b' r' → G E (cl + mc) (sl + ms) ad' dm' a' b' r' q lo (v.toList ++ rest)) : G E cl sl ad dm a b r pc lo (x7 :: x6 :: x5 :: x4 :: x3 :: x2 :: x1 :: .ref (ad nm) :: rest) :=
  g_callV C w hM hlev hl hd d hq rfl rfl hr hcs kk
theorem g_cs7i {idx nLy lev' : Nat} {y : MethodName} {cy : ByteArray} {ret : Option FieldType} {x1 x2 x3 x4 x5 x6 x7 : Value} {v : Value} {a' : Nat → Nat → Int32} {b' : Nat → Nat → Int64} {r' : Nat → Nat → Option Nat} (C : CX E cc own lev) (w : WS own idx y cy nLy ret 7) (d : decode cc pc = .ok (.invokestatic idx, 3)) (hq : pc + 3 = q) (hM : MT (eG E) (eB E) (eL E) y cy nLy ret lev' 0 0 [x1, x2, x3, x4, x5, x6, x7] ad dm a b r (PX (some v) ad dm a' b' r')) (hlev : lev' < lev) (hr : (rest.map fun v => v.category).sum ≤ 8) (hcs : cl ≤ (eR E).cells ∧ sl ≤ (eR E).slots) (kk : G E cl sl ad dm a' b' r' q lo (v :: rest)) : G E cl sl ad dm a b r pc lo (x7 :: x6 :: x5 :: x4 :: x3 :: x2 :: x1 :: rest) :=
  g_callS C w hM hlev d hq rfl rfl hr hcs (fun v0 ad0 dm0 a0 b0 r0 h => by obtain ⟨rfl, rfl, rfl, rfl, rfl, rfl⟩ := h; exact kk)
theorem g_ci7g {idx nLy nm lev' mc ms : Nat} {y : MethodName} {cy : ByteArray} {x1 x2 x3 x4 x5 x6 x7 : Value} {P : PO} (C : CX E cc own lev) (w : WI own idx y cy nLy 7) (d : decode cc pc = .ok (.invokespecial idx, 3)) (hq : pc + 3 = q) (hM : MT (eG E) (eB E) (eL E) y cy nLy none lev' mc ms [.ref (ad nm), x1, x2, x3, x4, x5, x6, x7] ad dm a b r P) (hlev : lev' < lev) (hr : (rest.map fun v => v.category).sum ≤ 8) (hcs : cl + mc ≤ (eR E).cells ∧ sl + ms ≤ (eR E).slots) (kk : ∀ v ad' dm' a' b' r', P v ad' dm' a' b' r' → G E (cl + mc) (sl + ms) ad' dm' a' b' r' q lo (v.toList ++ rest)) : G E cl sl ad dm a b r pc lo (x7 :: x6 :: x5 :: x4 :: x3 :: x2 :: x1 :: .ref (ad nm) :: rest) :=
  g_callI C w hM hlev d hq rfl rfl hr hcs kk
/-- ends -/
theorem g_iret {v : Int32} {P : PO} (C : CX E cc own lev) (T : RT E cl sl (some .int) P) (d : decode cc pc = .ok (.ireturn, 1)) (h : P (some (.int v)) ad dm a b r) : G E cl sl ad dm a b r pc lo [.int v] := fun H L ls hW hS hl => by
  unfold WW
  rw [T.1]
  exact W.iret C.1 C.2.1 T.2.1 (fun t ht _ => ⟨⟨_, _, _, _, _, _, rfl, h, by rw [ht]; exact hW⟩, hS.F ht⟩) hS.2.2 d T.2.2
theorem g_zret {v : Int32} {P : PO} (C : CX E cc own lev) (T : RT E cl sl (some .boolean) P) (d : decode cc pc = .ok (.ireturn, 1)) (hn : narrow .boolean (.int v) = .int v) (h : P (some (.int v)) ad dm a b r) : G E cl sl ad dm a b r pc lo [.int v] := fun H L ls hW hS hl => by
  unfold WW
  rw [T.1]
  exact W.zret C.1 C.2.1 T.2.1 hn (fun t ht _ => ⟨⟨_, _, _, _, _, _, rfl, h, by rw [ht]; exact hW⟩, hS.F ht⟩) hS.2.2 d T.2.2
theorem g_lret {v : Int64} {P : PO} (C : CX E cc own lev) (T : RT E cl sl (some .long) P) (d : decode cc pc = .ok (.lreturn, 1)) (h : P (some (.long v)) ad dm a b r) : G E cl sl ad dm a b r pc lo [.long v] := fun H L ls hW hS hl => by
  unfold WW
  rw [T.1]
  exact W.lret C.1 C.2.1 T.2.1 (fun t ht _ => ⟨⟨_, _, _, _, _, _, rfl, h, by rw [ht]; exact hW⟩, hS.F ht⟩) hS.2.2 d T.2.2
theorem g_vret {P : PO} (C : CX E cc own lev) (T : RT E cl sl none P) (d : decode cc pc = .ok (.return_, 1)) (h : P none ad dm a b r) : G E cl sl ad dm a b r pc lo [] := fun H L ls hW hS hl => by
  unfold WW
  rw [T.1]
  exact W.vret C.1 C.2.1 T.2.1 (fun t ht _ => ⟨⟨_, _, _, _, _, _, rfl, h, by rw [ht]; exact hW⟩, hS.F ht⟩) hS.2.2 d T.2.2
theorem g_aret {v : Value} {c0 : String} {P : PO} (C : CX E cc own lev) (T : RT E cl sl (some (.object c0)) P) (d : decode cc pc = .ok (.areturn, 1)) (hv : v = .null ∨ ∃ n, v = .ref n) (h : P (some v) ad dm a b r) : G E cl sl ad dm a b r pc lo [v] := fun H L ls hW hS hl => by
  unfold WW
  rw [T.1]
  exact W.aret C.1 C.2.1 T.2.1 (Or.inl ⟨_, rfl⟩) hv (fun t ht _ => ⟨⟨_, _, _, _, _, _, rfl, h, by rw [ht]; exact hW⟩, hS.F ht⟩) hS.2.2 d T.2.2
/-- Math.max, Math.min -/
theorem g_mmax {idx : Nat} {x y : Int32} (C : CX E cc own lev) (w : Cond.methodLink own idx Lib.Math.max.name ∈ gd ∧ Cond.static Lib.Math.max.name ∈ gd ∧ Cond.initialized "java/lang/Math" ∈ gd ∧ Cond.code Lib.Math.max.name Lib.Math.max.code 2 (some .int) ∈ gd) (d : decode cc pc = .ok (.invokestatic idx, 3)) (hq : pc + 3 = q) (hlev : 0 < lev) (hr : (rest.map fun v => v.category).sum ≤ 8) (hcs : cl ≤ (eR E).cells ∧ sl ≤ (eR E).slots) (kk : G E cl sl ad dm a b r q lo (.int (if x < y then y else x) :: rest)) : G E cl sl ad dm a b r pc lo (.int y :: .int x :: rest) := fun H L ls hW hS hl => by
  subst hq
  obtain ⟨hx, hb, hml, hown, hts, hK, hf, hlc⟩ := C
  exact va_mmax hx hb (hml.trans hl.1.symm) hown (hts _ w.1) (hts _ w.2.1) (hts _ w.2.2.1) (hts _ w.2.2.2) (by omega) (by omega) hcs.1 hcs.2 d (kk H L ls hW hS hl)
theorem g_mmin {idx : Nat} {x y : Int32} (C : CX E cc own lev) (w : Cond.methodLink own idx Lib.Math.min.name ∈ gd ∧ Cond.static Lib.Math.min.name ∈ gd ∧ Cond.initialized "java/lang/Math" ∈ gd ∧ Cond.code Lib.Math.min.name Lib.Math.min.code 2 (some .int) ∈ gd) (d : decode cc pc = .ok (.invokestatic idx, 3)) (hq : pc + 3 = q) (hlev : 0 < lev) (hr : (rest.map fun v => v.category).sum ≤ 8) (hcs : cl ≤ (eR E).cells ∧ sl ≤ (eR E).slots) (kk : G E cl sl ad dm a b r q lo (.int (if y < x then y else x) :: rest)) : G E cl sl ad dm a b r pc lo (.int y :: .int x :: rest) := fun H L ls hW hS hl => by
  subst hq
  obtain ⟨hx, hb, hml, hown, hts, hK, hf, hlc⟩ := C
  exact va_mmin hx hb (hml.trans hl.1.symm) hown (hts _ w.1) (hts _ w.2.1) (hts _ w.2.2.1) (hts _ w.2.2.2) (by omega) (by omega) hcs.1 hcs.2 d (kk H L ls hW hS hl)
/-- booleans -/
def bI (c : Bool) : Int32 := if c then 1 else 0
theorem g_ifeqb {c : Bool} {off : Int} {tgt : Nat} (C : CX E cc own lev) (d : decode cc pc = .ok (.ifCond .eq off, 3)) (hq : pc + 3 = q) (ht : (pc : Int) + off = (tgt : Int)) (kt : c = false → G E cl sl ad dm a b r tgt lo rest) (kf : c = true → G E cl sl ad dm a b r q lo rest) : G E cl sl ad dm a b r pc lo (.int (bI c) :: rest) := g_if_eq C d hq ht (fun h => kt (by cases c <;> first | rfl | exact absurd h (by decide))) (fun h => kf (by cases c <;> first | rfl | exact absurd rfl h))
theorem g_ifneb {c : Bool} {off : Int} {tgt : Nat} (C : CX E cc own lev) (d : decode cc pc = .ok (.ifCond .ne off, 3)) (hq : pc + 3 = q) (ht : (pc : Int) + off = (tgt : Int)) (kt : c = true → G E cl sl ad dm a b r tgt lo rest) (kf : c = false → G E cl sl ad dm a b r q lo rest) : G E cl sl ad dm a b r pc lo (.int (bI c) :: rest) := g_if_ne C d hq ht (fun h => kt (by cases c <;> first | rfl | exact absurd rfl h)) (fun h => kf (by cases c <;> first | rfl | exact absurd h (by decide)))
end GC
end
section
/-! the words, one by one -/
theorem in_X0 : ∀ w ∈ u_ws RX0 TX0 9, w ∈ gd := by decide +kernel
theorem in_X1 : ∀ w ∈ u_ws RX1 TX1 13, w ∈ gd := by decide +kernel
theorem in_X2 : ∀ w ∈ u_ws RX2 TX2 9, w ∈ gd := by decide +kernel
theorem in_X3 : ∀ w ∈ u_ws RX3 TX3 8, w ∈ gd := by decide +kernel
theorem in_X4 : ∀ w ∈ u_ws RX4 TX4 20, w ∈ gd := by decide +kernel
theorem f_X1_11 : FF RX1 11 1 0 9 := ⟨RX1, TX1, 13, rfl, in_X1, gd_1 31 (by decide +kernel) rfl, by decide, rfl, rfl⟩
theorem p_X1_11 : FP RX1 11 1 0 9 true (.array (.object "TooMany$Party")) := ⟨RX1, TX1, 13, tyX1, rfl, in_X1, gd_1 31 (by decide +kernel) rfl, by decide, rfl, rfl, tyX1_ok, nmX1, rfl, rfl, rfl⟩
theorem f_X1_17 : FF RX1 17 1 1 10 := ⟨RX1, TX1, 13, rfl, in_X1, gd_1 32 (by decide +kernel) rfl, by decide, rfl, rfl⟩
theorem p_X1_17 : FP RX1 17 1 1 10 true (.array .int) := ⟨RX1, TX1, 13, tyX1, rfl, in_X1, gd_1 32 (by decide +kernel) rfl, by decide, rfl, rfl, tyX1_ok, nmX1, rfl, rfl, rfl⟩
theorem f_X1_21 : FF RX1 21 1 2 11 := ⟨RX1, TX1, 13, rfl, in_X1, gd_1 33 (by decide +kernel) rfl, by decide, rfl, rfl⟩
theorem p_X1_21 : FP RX1 21 1 2 11 true (.array .int) := ⟨RX1, TX1, 13, tyX1, rfl, in_X1, gd_1 33 (by decide +kernel) rfl, by decide, rfl, rfl, tyX1_ok, nmX1, rfl, rfl, rfl⟩
theorem f_X1_24 : FF RX1 24 1 3 12 := ⟨RX1, TX1, 13, rfl, in_X1, gd_1 34 (by decide +kernel) rfl, by decide, rfl, rfl⟩
theorem p_X1_24 : FP RX1 24 1 3 12 true (.array .int) := ⟨RX1, TX1, 13, tyX1, rfl, in_X1, gd_1 34 (by decide +kernel) rfl, by decide, rfl, rfl, tyX1_ok, nmX1, rfl, rfl, rfl⟩
theorem f_X1_27 : FF RX1 27 1 4 13 := ⟨RX1, TX1, 13, rfl, in_X1, gd_1 35 (by decide +kernel) rfl, by decide, rfl, rfl⟩
theorem p_X1_27 : FP RX1 27 1 4 13 true (.array .int) := ⟨RX1, TX1, 13, tyX1, rfl, in_X1, gd_1 35 (by decide +kernel) rfl, by decide, rfl, rfl, tyX1_ok, nmX1, rfl, rfl, rfl⟩
theorem f_X1_30 : FF RX1 30 1 5 14 := ⟨RX1, TX1, 13, rfl, in_X1, gd_1 36 (by decide +kernel) rfl, by decide, rfl, rfl⟩
theorem p_X1_30 : FP RX1 30 1 5 14 true (.array .int) := ⟨RX1, TX1, 13, tyX1, rfl, in_X1, gd_1 36 (by decide +kernel) rfl, by decide, rfl, rfl, tyX1_ok, nmX1, rfl, rfl, rfl⟩
theorem f_X1_33 : FF RX1 33 1 6 15 := ⟨RX1, TX1, 13, rfl, in_X1, gd_1 37 (by decide +kernel) rfl, by decide, rfl, rfl⟩
theorem p_X1_33 : FP RX1 33 1 6 15 true (.array .int) := ⟨RX1, TX1, 13, tyX1, rfl, in_X1, gd_1 37 (by decide +kernel) rfl, by decide, rfl, rfl, tyX1_ok, nmX1, rfl, rfl, rfl⟩
theorem f_X1_38 : FF RX1 38 1 7 16 := ⟨RX1, TX1, 13, rfl, in_X1, gd_1 38 (by decide +kernel) rfl, by decide, rfl, rfl⟩
theorem p_X1_38 : FP RX1 38 1 7 16 true (.array (.object "TooMany$Flight")) := ⟨RX1, TX1, 13, tyX1, rfl, in_X1, gd_1 38 (by decide +kernel) rfl, by decide, rfl, rfl, tyX1_ok, nmX1, rfl, rfl, rfl⟩
theorem f_X1_42 : FF RX1 42 1 8 17 := ⟨RX1, TX1, 13, rfl, in_X1, gd_1 39 (by decide +kernel) rfl, by decide, rfl, rfl⟩
theorem p_X1_42 : FP RX1 42 1 8 17 true (.array (.object "TooMany$Flight")) := ⟨RX1, TX1, 13, tyX1, rfl, in_X1, gd_1 39 (by decide +kernel) rfl, by decide, rfl, rfl, tyX1_ok, nmX1, rfl, rfl, rfl⟩
theorem f_X1_45 : FF RX1 45 1 9 18 := ⟨RX1, TX1, 13, rfl, in_X1, gd_1 40 (by decide +kernel) rfl, by decide, rfl, rfl⟩
theorem p_X1_45 : FP RX1 45 1 9 18 true (.array .int) := ⟨RX1, TX1, 13, tyX1, rfl, in_X1, gd_1 40 (by decide +kernel) rfl, by decide, rfl, rfl, tyX1_ok, nmX1, rfl, rfl, rfl⟩
theorem f_X1_48 : FF RX1 48 1 10 19 := ⟨RX1, TX1, 13, rfl, in_X1, gd_1 41 (by decide +kernel) rfl, by decide, rfl, rfl⟩
theorem p_X1_48 : FP RX1 48 1 10 19 true (.array .long) := ⟨RX1, TX1, 13, tyX1, rfl, in_X1, gd_1 41 (by decide +kernel) rfl, by decide, rfl, rfl, tyX1_ok, nmX1, rfl, rfl, rfl⟩
theorem f_X1_52 : FF RX1 52 1 11 1 := ⟨RX1, TX1, 13, rfl, in_X1, gd_1 42 (by decide +kernel) rfl, by decide, rfl, rfl⟩
theorem p_X1_52 : FP RX1 52 1 11 1 false .long := ⟨RX1, TX1, 13, tyX1, rfl, in_X1, gd_1 42 (by decide +kernel) rfl, by decide, rfl, rfl, tyX1_ok, nmX1, rfl, rfl, rfl⟩
theorem f_X1_56 : FF RX1 56 1 12 0 := ⟨RX1, TX1, 13, rfl, in_X1, gd_1 43 (by decide +kernel) rfl, by decide, rfl, rfl⟩
theorem p_X1_56 : FP RX1 56 1 12 0 false .int := ⟨RX1, TX1, 13, tyX1, rfl, in_X1, gd_1 43 (by decide +kernel) rfl, by decide, rfl, rfl, tyX1_ok, nmX1, rfl, rfl, rfl⟩
theorem f_X3_11 : FF RX3 11 3 0 4 := ⟨RX3, TX3, 8, rfl, in_X3, gd_1 73 (by decide +kernel) rfl, by decide, rfl, rfl⟩
theorem p_X3_11 : FP RX3 11 3 0 4 true (.array (.object "TooMany$Flight")) := ⟨RX3, TX3, 8, tyX3, rfl, in_X3, gd_1 73 (by decide +kernel) rfl, by decide, rfl, rfl, tyX3_ok, nmX3, rfl, rfl, rfl⟩
theorem f_X3_17 : FF RX3 17 3 1 5 := ⟨RX3, TX3, 8, rfl, in_X3, gd_1 74 (by decide +kernel) rfl, by decide, rfl, rfl⟩
theorem p_X3_17 : FP RX3 17 3 1 5 true (.array (.object "TooMany$Party")) := ⟨RX3, TX3, 8, tyX3, rfl, in_X3, gd_1 74 (by decide +kernel) rfl, by decide, rfl, rfl, tyX3_ok, nmX3, rfl, rfl, rfl⟩
theorem f_X3_21 : FF RX3 21 3 2 6 := ⟨RX3, TX3, 8, rfl, in_X3, gd_1 75 (by decide +kernel) rfl, by decide, rfl, rfl⟩
theorem p_X3_21 : FP RX3 21 3 2 6 true (.array .int) := ⟨RX3, TX3, 8, tyX3, rfl, in_X3, gd_1 75 (by decide +kernel) rfl, by decide, rfl, rfl, tyX3_ok, nmX3, rfl, rfl, rfl⟩
theorem f_X3_25 : FF RX3 25 3 3 7 := ⟨RX3, TX3, 8, rfl, in_X3, gd_1 76 (by decide +kernel) rfl, by decide, rfl, rfl⟩
theorem p_X3_25 : FP RX3 25 3 3 7 true (.array .long) := ⟨RX3, TX3, 8, tyX3, rfl, in_X3, gd_1 76 (by decide +kernel) rfl, by decide, rfl, rfl, tyX3_ok, nmX3, rfl, rfl, rfl⟩
theorem f_X3_32 : FF RX3 32 3 4 8 := ⟨RX3, TX3, 8, rfl, in_X3, gd_1 77 (by decide +kernel) rfl, by decide, rfl, rfl⟩
theorem p_X3_32 : FP RX3 32 3 4 8 true (.object "TooMany$Mover") := ⟨RX3, TX3, 8, tyX3, rfl, in_X3, gd_1 77 (by decide +kernel) rfl, by decide, rfl, rfl, tyX3_ok, nmX3, rfl, rfl, rfl⟩
theorem f_X3_36 : FF RX3 36 3 5 0 := ⟨RX3, TX3, 8, rfl, in_X3, gd_1 78 (by decide +kernel) rfl, by decide, rfl, rfl⟩
theorem p_X3_36 : FP RX3 36 3 5 0 false .int := ⟨RX3, TX3, 8, tyX3, rfl, in_X3, gd_1 78 (by decide +kernel) rfl, by decide, rfl, rfl, tyX3_ok, nmX3, rfl, rfl, rfl⟩
theorem f_X3_40 : FF RX3 40 3 6 0 := ⟨RX3, TX3, 8, rfl, in_X3, gd_1 79 (by decide +kernel) rfl, by decide, rfl, rfl⟩
theorem p_X3_40 : FP RX3 40 3 6 0 false .int := ⟨RX3, TX3, 8, tyX3, rfl, in_X3, gd_1 79 (by decide +kernel) rfl, by decide, rfl, rfl, tyX3_ok, nmX3, rfl, rfl, rfl⟩
theorem f_X3_43 : FF RX3 43 3 7 0 := ⟨RX3, TX3, 8, rfl, in_X3, gd_1 80 (by decide +kernel) rfl, by decide, rfl, rfl⟩
theorem p_X3_43 : FP RX3 43 3 7 0 false .int := ⟨RX3, TX3, 8, tyX3, rfl, in_X3, gd_1 80 (by decide +kernel) rfl, by decide, rfl, rfl, tyX3_ok, nmX3, rfl, rfl, rfl⟩
theorem f_X0_17 : FF RX0 17 0 0 0 := ⟨RX0, TX0, 9, rfl, in_X0, gd_1 110 (by decide +kernel) rfl, by decide, rfl, rfl⟩
theorem p_X0_17 : FP RX0 17 0 0 0 true .int := ⟨RX0, TX0, 9, tyX0, rfl, in_X0, gd_1 110 (by decide +kernel) rfl, by decide, rfl, rfl, tyX0_ok, nmX0, rfl, rfl, rfl⟩
theorem f_X3_99 : FF RX3 99 0 0 0 := ⟨RX0, TX0, 9, rfl, in_X0, gd_1 111 (by decide +kernel) rfl, by decide, rfl, rfl⟩
theorem p_X3_99 : FP RX3 99 0 0 0 true .int := ⟨RX0, TX0, 9, tyX0, rfl, in_X0, gd_1 111 (by decide +kernel) rfl, by decide, rfl, rfl, tyX0_ok, nmX0, rfl, rfl, rfl⟩
theorem f_X0_20 : FF RX0 20 0 1 0 := ⟨RX0, TX0, 9, rfl, in_X0, gd_1 112 (by decide +kernel) rfl, by decide, rfl, rfl⟩
theorem p_X0_20 : FP RX0 20 0 1 0 true .int := ⟨RX0, TX0, 9, tyX0, rfl, in_X0, gd_1 112 (by decide +kernel) rfl, by decide, rfl, rfl, tyX0_ok, nmX0, rfl, rfl, rfl⟩
theorem f_X3_255 : FF RX3 255 0 1 0 := ⟨RX0, TX0, 9, rfl, in_X0, gd_1 113 (by decide +kernel) rfl, by decide, rfl, rfl⟩
theorem p_X3_255 : FP RX3 255 0 1 0 true .int := ⟨RX0, TX0, 9, tyX0, rfl, in_X0, gd_1 113 (by decide +kernel) rfl, by decide, rfl, rfl, tyX0_ok, nmX0, rfl, rfl, rfl⟩
theorem f_X0_23 : FF RX0 23 0 2 0 := ⟨RX0, TX0, 9, rfl, in_X0, gd_1 114 (by decide +kernel) rfl, by decide, rfl, rfl⟩
theorem p_X0_23 : FP RX0 23 0 2 0 true .int := ⟨RX0, TX0, 9, tyX0, rfl, in_X0, gd_1 114 (by decide +kernel) rfl, by decide, rfl, rfl, tyX0_ok, nmX0, rfl, rfl, rfl⟩
theorem f_X3_261 : FF RX3 261 0 2 0 := ⟨RX0, TX0, 9, rfl, in_X0, gd_1 115 (by decide +kernel) rfl, by decide, rfl, rfl⟩
theorem p_X3_261 : FP RX3 261 0 2 0 true .int := ⟨RX0, TX0, 9, tyX0, rfl, in_X0, gd_1 115 (by decide +kernel) rfl, by decide, rfl, rfl, tyX0_ok, nmX0, rfl, rfl, rfl⟩
theorem f_X0_26 : FF RX0 26 0 3 0 := ⟨RX0, TX0, 9, rfl, in_X0, gd_1 116 (by decide +kernel) rfl, by decide, rfl, rfl⟩
theorem p_X0_26 : FP RX0 26 0 3 0 true .int := ⟨RX0, TX0, 9, tyX0, rfl, in_X0, gd_1 116 (by decide +kernel) rfl, by decide, rfl, rfl, tyX0_ok, nmX0, rfl, rfl, rfl⟩
theorem f_X3_258 : FF RX3 258 0 3 0 := ⟨RX0, TX0, 9, rfl, in_X0, gd_1 117 (by decide +kernel) rfl, by decide, rfl, rfl⟩
theorem p_X3_258 : FP RX3 258 0 3 0 true .int := ⟨RX0, TX0, 9, tyX0, rfl, in_X0, gd_1 117 (by decide +kernel) rfl, by decide, rfl, rfl, tyX0_ok, nmX0, rfl, rfl, rfl⟩
theorem f_X0_29 : FF RX0 29 0 4 0 := ⟨RX0, TX0, 9, rfl, in_X0, gd_1 118 (by decide +kernel) rfl, by decide, rfl, rfl⟩
theorem p_X0_29 : FP RX0 29 0 4 0 true .int := ⟨RX0, TX0, 9, tyX0, rfl, in_X0, gd_1 118 (by decide +kernel) rfl, by decide, rfl, rfl, tyX0_ok, nmX0, rfl, rfl, rfl⟩
theorem f_X2_53 : FF RX2 53 0 4 0 := ⟨RX0, TX0, 9, rfl, in_X0, gd_1 119 (by decide +kernel) rfl, by decide, rfl, rfl⟩
theorem p_X2_53 : FP RX2 53 0 4 0 true .int := ⟨RX0, TX0, 9, tyX0, rfl, in_X0, gd_1 119 (by decide +kernel) rfl, by decide, rfl, rfl, tyX0_ok, nmX0, rfl, rfl, rfl⟩
theorem f_X3_264 : FF RX3 264 0 4 0 := ⟨RX0, TX0, 9, rfl, in_X0, gd_1 120 (by decide +kernel) rfl, by decide, rfl, rfl⟩
theorem p_X3_264 : FP RX3 264 0 4 0 true .int := ⟨RX0, TX0, 9, tyX0, rfl, in_X0, gd_1 120 (by decide +kernel) rfl, by decide, rfl, rfl, tyX0_ok, nmX0, rfl, rfl, rfl⟩
theorem f_X0_32 : FF RX0 32 0 5 0 := ⟨RX0, TX0, 9, rfl, in_X0, gd_1 121 (by decide +kernel) rfl, by decide, rfl, rfl⟩
theorem p_X0_32 : FP RX0 32 0 5 0 true .int := ⟨RX0, TX0, 9, tyX0, rfl, in_X0, gd_1 121 (by decide +kernel) rfl, by decide, rfl, rfl, tyX0_ok, nmX0, rfl, rfl, rfl⟩
theorem f_X3_75 : FF RX3 75 0 5 0 := ⟨RX0, TX0, 9, rfl, in_X0, gd_1 122 (by decide +kernel) rfl, by decide, rfl, rfl⟩
theorem p_X3_75 : FP RX3 75 0 5 0 true .int := ⟨RX0, TX0, 9, tyX0, rfl, in_X0, gd_1 122 (by decide +kernel) rfl, by decide, rfl, rfl, tyX0_ok, nmX0, rfl, rfl, rfl⟩
theorem f_X0_35 : FF RX0 35 0 6 0 := ⟨RX0, TX0, 9, rfl, in_X0, gd_1 123 (by decide +kernel) rfl, by decide, rfl, rfl⟩
theorem p_X0_35 : FP RX0 35 0 6 0 true .int := ⟨RX0, TX0, 9, tyX0, rfl, in_X0, gd_1 123 (by decide +kernel) rfl, by decide, rfl, rfl, tyX0_ok, nmX0, rfl, rfl, rfl⟩
theorem f_X3_230 : FF RX3 230 0 6 0 := ⟨RX0, TX0, 9, rfl, in_X0, gd_1 124 (by decide +kernel) rfl, by decide, rfl, rfl⟩
theorem p_X3_230 : FP RX3 230 0 6 0 true .int := ⟨RX0, TX0, 9, tyX0, rfl, in_X0, gd_1 124 (by decide +kernel) rfl, by decide, rfl, rfl, tyX0_ok, nmX0, rfl, rfl, rfl⟩
theorem f_X0_7 : FF RX0 7 0 7 0 := ⟨RX0, TX0, 9, rfl, in_X0, gd_1 125 (by decide +kernel) rfl, by decide, rfl, rfl⟩
theorem p_X0_7 : FP RX0 7 0 7 0 false .boolean := ⟨RX0, TX0, 9, tyX0, rfl, in_X0, gd_1 125 (by decide +kernel) rfl, by decide, rfl, rfl, tyX0_ok, nmX0, rfl, rfl, rfl⟩
theorem f_X3_57 : FF RX3 57 0 7 0 := ⟨RX0, TX0, 9, rfl, in_X0, gd_1 126 (by decide +kernel) rfl, by decide, rfl, rfl⟩
theorem p_X3_57 : FP RX3 57 0 7 0 false .boolean := ⟨RX0, TX0, 9, tyX0, rfl, in_X0, gd_1 126 (by decide +kernel) rfl, by decide, rfl, rfl, tyX0_ok, nmX0, rfl, rfl, rfl⟩
theorem f_X0_13 : FF RX0 13 0 8 0 := ⟨RX0, TX0, 9, rfl, in_X0, gd_1 127 (by decide +kernel) rfl, by decide, rfl, rfl⟩
theorem p_X0_13 : FP RX0 13 0 8 0 false .int := ⟨RX0, TX0, 9, tyX0, rfl, in_X0, gd_1 127 (by decide +kernel) rfl, by decide, rfl, rfl, tyX0_ok, nmX0, rfl, rfl, rfl⟩
theorem f_X1_119 : FF RX1 119 0 8 0 := ⟨RX0, TX0, 9, rfl, in_X0, gd_1 128 (by decide +kernel) rfl, by decide, rfl, rfl⟩
theorem p_X1_119 : FP RX1 119 0 8 0 false .int := ⟨RX0, TX0, 9, tyX0, rfl, in_X0, gd_1 128 (by decide +kernel) rfl, by decide, rfl, rfl, tyX0_ok, nmX0, rfl, rfl, rfl⟩
theorem f_X3_194 : FF RX3 194 0 8 0 := ⟨RX0, TX0, 9, rfl, in_X0, gd_1 129 (by decide +kernel) rfl, by decide, rfl, rfl⟩
theorem p_X3_194 : FP RX3 194 0 8 0 false .int := ⟨RX0, TX0, 9, tyX0, rfl, in_X0, gd_1 129 (by decide +kernel) rfl, by decide, rfl, rfl, tyX0_ok, nmX0, rfl, rfl, rfl⟩
theorem f_X2_25 : FF RX2 25 2 0 2 := ⟨RX2, TX2, 9, rfl, in_X2, gd_1 166 (by decide +kernel) rfl, by decide, rfl, rfl⟩
theorem p_X2_25 : FP RX2 25 2 0 2 true (.object "TooMany$Flight") := ⟨RX2, TX2, 9, tyX2, rfl, in_X2, gd_1 166 (by decide +kernel) rfl, by decide, rfl, rfl, tyX2_ok, nmX2, rfl, rfl, rfl⟩
theorem f_X1_87 : FF RX1 87 2 0 2 := ⟨RX2, TX2, 9, rfl, in_X2, gd_1 167 (by decide +kernel) rfl, by decide, rfl, rfl⟩
theorem p_X1_87 : FP RX1 87 2 0 2 true (.object "TooMany$Flight") := ⟨RX2, TX2, 9, tyX2, rfl, in_X2, gd_1 167 (by decide +kernel) rfl, by decide, rfl, rfl, tyX2_ok, nmX2, rfl, rfl, rfl⟩
theorem f_X3_95 : FF RX3 95 2 0 2 := ⟨RX2, TX2, 9, rfl, in_X2, gd_1 168 (by decide +kernel) rfl, by decide, rfl, rfl⟩
theorem p_X3_95 : FP RX3 95 2 0 2 true (.object "TooMany$Flight") := ⟨RX2, TX2, 9, tyX2, rfl, in_X2, gd_1 168 (by decide +kernel) rfl, by decide, rfl, rfl, tyX2_ok, nmX2, rfl, rfl, rfl⟩
theorem f_X2_28 : FF RX2 28 2 1 0 := ⟨RX2, TX2, 9, rfl, in_X2, gd_1 169 (by decide +kernel) rfl, by decide, rfl, rfl⟩
theorem p_X2_28 : FP RX2 28 2 1 0 true .int := ⟨RX2, TX2, 9, tyX2, rfl, in_X2, gd_1 169 (by decide +kernel) rfl, by decide, rfl, rfl, tyX2_ok, nmX2, rfl, rfl, rfl⟩
theorem f_X1_76 : FF RX1 76 2 1 0 := ⟨RX2, TX2, 9, rfl, in_X2, gd_1 170 (by decide +kernel) rfl, by decide, rfl, rfl⟩
theorem p_X1_76 : FP RX1 76 2 1 0 true .int := ⟨RX2, TX2, 9, tyX2, rfl, in_X2, gd_1 170 (by decide +kernel) rfl, by decide, rfl, rfl, tyX2_ok, nmX2, rfl, rfl, rfl⟩
theorem f_X3_102 : FF RX3 102 2 1 0 := ⟨RX2, TX2, 9, rfl, in_X2, gd_1 171 (by decide +kernel) rfl, by decide, rfl, rfl⟩
theorem p_X3_102 : FP RX3 102 2 1 0 true .int := ⟨RX2, TX2, 9, tyX2, rfl, in_X2, gd_1 171 (by decide +kernel) rfl, by decide, rfl, rfl, tyX2_ok, nmX2, rfl, rfl, rfl⟩
theorem f_X2_31 : FF RX2 31 2 2 0 := ⟨RX2, TX2, 9, rfl, in_X2, gd_1 172 (by decide +kernel) rfl, by decide, rfl, rfl⟩
theorem p_X2_31 : FP RX2 31 2 2 0 true .int := ⟨RX2, TX2, 9, tyX2, rfl, in_X2, gd_1 172 (by decide +kernel) rfl, by decide, rfl, rfl, tyX2_ok, nmX2, rfl, rfl, rfl⟩
theorem f_X3_252 : FF RX3 252 2 2 0 := ⟨RX2, TX2, 9, rfl, in_X2, gd_1 173 (by decide +kernel) rfl, by decide, rfl, rfl⟩
theorem p_X3_252 : FP RX3 252 2 2 0 true .int := ⟨RX2, TX2, 9, tyX2, rfl, in_X2, gd_1 173 (by decide +kernel) rfl, by decide, rfl, rfl, tyX2_ok, nmX2, rfl, rfl, rfl⟩
theorem f_X2_34 : FF RX2 34 2 3 0 := ⟨RX2, TX2, 9, rfl, in_X2, gd_1 174 (by decide +kernel) rfl, by decide, rfl, rfl⟩
theorem p_X2_34 : FP RX2 34 2 3 0 true .int := ⟨RX2, TX2, 9, tyX2, rfl, in_X2, gd_1 174 (by decide +kernel) rfl, by decide, rfl, rfl, tyX2_ok, nmX2, rfl, rfl, rfl⟩
theorem f_X3_151 : FF RX3 151 2 3 0 := ⟨RX2, TX2, 9, rfl, in_X2, gd_1 175 (by decide +kernel) rfl, by decide, rfl, rfl⟩
theorem p_X3_151 : FP RX3 151 2 3 0 true .int := ⟨RX2, TX2, 9, tyX2, rfl, in_X2, gd_1 175 (by decide +kernel) rfl, by decide, rfl, rfl, tyX2_ok, nmX2, rfl, rfl, rfl⟩
theorem f_X2_37 : FF RX2 37 2 4 0 := ⟨RX2, TX2, 9, rfl, in_X2, gd_1 176 (by decide +kernel) rfl, by decide, rfl, rfl⟩
theorem p_X2_37 : FP RX2 37 2 4 0 true .boolean := ⟨RX2, TX2, 9, tyX2, rfl, in_X2, gd_1 176 (by decide +kernel) rfl, by decide, rfl, rfl, tyX2_ok, nmX2, rfl, rfl, rfl⟩
theorem f_X3_227 : FF RX3 227 2 4 0 := ⟨RX2, TX2, 9, rfl, in_X2, gd_1 177 (by decide +kernel) rfl, by decide, rfl, rfl⟩
theorem p_X3_227 : FP RX3 227 2 4 0 true .boolean := ⟨RX2, TX2, 9, tyX2, rfl, in_X2, gd_1 177 (by decide +kernel) rfl, by decide, rfl, rfl, tyX2_ok, nmX2, rfl, rfl, rfl⟩
theorem f_X2_9 : FF RX2 9 2 5 0 := ⟨RX2, TX2, 9, rfl, in_X2, gd_1 178 (by decide +kernel) rfl, by decide, rfl, rfl⟩
theorem p_X2_9 : FP RX2 9 2 5 0 false .int := ⟨RX2, TX2, 9, tyX2, rfl, in_X2, gd_1 178 (by decide +kernel) rfl, by decide, rfl, rfl, tyX2_ok, nmX2, rfl, rfl, rfl⟩
theorem f_X3_92 : FF RX3 92 2 5 0 := ⟨RX2, TX2, 9, rfl, in_X2, gd_1 179 (by decide +kernel) rfl, by decide, rfl, rfl⟩
theorem p_X3_92 : FP RX3 92 2 5 0 false .int := ⟨RX2, TX2, 9, tyX2, rfl, in_X2, gd_1 179 (by decide +kernel) rfl, by decide, rfl, rfl, tyX2_ok, nmX2, rfl, rfl, rfl⟩
theorem f_X2_15 : FF RX2 15 2 6 0 := ⟨RX2, TX2, 9, rfl, in_X2, gd_1 180 (by decide +kernel) rfl, by decide, rfl, rfl⟩
theorem p_X2_15 : FP RX2 15 2 6 0 false .int := ⟨RX2, TX2, 9, tyX2, rfl, in_X2, gd_1 180 (by decide +kernel) rfl, by decide, rfl, rfl, tyX2_ok, nmX2, rfl, rfl, rfl⟩
theorem f_X3_105 : FF RX3 105 2 6 0 := ⟨RX2, TX2, 9, rfl, in_X2, gd_1 181 (by decide +kernel) rfl, by decide, rfl, rfl⟩
theorem p_X3_105 : FP RX3 105 2 6 0 false .int := ⟨RX2, TX2, 9, tyX2, rfl, in_X2, gd_1 181 (by decide +kernel) rfl, by decide, rfl, rfl, tyX2_ok, nmX2, rfl, rfl, rfl⟩
theorem f_X2_18 : FF RX2 18 2 7 2 := ⟨RX2, TX2, 9, rfl, in_X2, gd_1 182 (by decide +kernel) rfl, by decide, rfl, rfl⟩
theorem p_X2_18 : FP RX2 18 2 7 2 false (.object "TooMany$Flight") := ⟨RX2, TX2, 9, tyX2, rfl, in_X2, gd_1 182 (by decide +kernel) rfl, by decide, rfl, rfl, tyX2_ok, nmX2, rfl, rfl, rfl⟩
theorem f_X3_108 : FF RX3 108 2 7 2 := ⟨RX2, TX2, 9, rfl, in_X2, gd_1 183 (by decide +kernel) rfl, by decide, rfl, rfl⟩
theorem p_X3_108 : FP RX3 108 2 7 2 false (.object "TooMany$Flight") := ⟨RX2, TX2, 9, tyX2, rfl, in_X2, gd_1 183 (by decide +kernel) rfl, by decide, rfl, rfl, tyX2_ok, nmX2, rfl, rfl, rfl⟩
theorem f_X2_22 : FF RX2 22 2 8 2 := ⟨RX2, TX2, 9, rfl, in_X2, gd_1 184 (by decide +kernel) rfl, by decide, rfl, rfl⟩
theorem p_X2_22 : FP RX2 22 2 8 2 false (.object "TooMany$Flight") := ⟨RX2, TX2, 9, tyX2, rfl, in_X2, gd_1 184 (by decide +kernel) rfl, by decide, rfl, rfl, tyX2_ok, nmX2, rfl, rfl, rfl⟩
theorem f_X3_114 : FF RX3 114 2 8 2 := ⟨RX2, TX2, 9, rfl, in_X2, gd_1 185 (by decide +kernel) rfl, by decide, rfl, rfl⟩
theorem p_X3_114 : FP RX3 114 2 8 2 false (.object "TooMany$Flight") := ⟨RX2, TX2, 9, tyX2, rfl, in_X2, gd_1 185 (by decide +kernel) rfl, by decide, rfl, rfl, tyX2_ok, nmX2, rfl, rfl, rfl⟩
theorem f_X4_9 : FF RX4 9 4 0 104 := ⟨RX4, TX4, 20, rfl, in_X4, gd_3 70 (by decide +kernel) rfl, by decide, rfl, rfl⟩
theorem p_X4_9 : FP RX4 9 4 0 104 true (.array .int) := ⟨RX4, TX4, 20, tyX4, rfl, in_X4, gd_3 70 (by decide +kernel) rfl, by decide, rfl, rfl, tyX4_ok, nmX4, rfl, rfl, rfl⟩
theorem f_X4_56 : FF RX4 56 4 1 0 := ⟨RX4, TX4, 20, rfl, in_X4, gd_3 71 (by decide +kernel) rfl, by decide, rfl, rfl⟩
theorem p_X4_56 : FP RX4 56 4 1 0 false .int := ⟨RX4, TX4, 20, tyX4, rfl, in_X4, gd_3 71 (by decide +kernel) rfl, by decide, rfl, rfl, tyX4_ok, nmX4, rfl, rfl, rfl⟩
theorem f_X4_13 : FF RX4 13 4 2 105 := ⟨RX4, TX4, 20, rfl, in_X4, gd_3 72 (by decide +kernel) rfl, by decide, rfl, rfl⟩
theorem p_X4_13 : FP RX4 13 4 2 105 true (.array .int) := ⟨RX4, TX4, 20, tyX4, rfl, in_X4, gd_3 72 (by decide +kernel) rfl, by decide, rfl, rfl, tyX4_ok, nmX4, rfl, rfl, rfl⟩
theorem f_X4_63 : FF RX4 63 4 3 0 := ⟨RX4, TX4, 20, rfl, in_X4, gd_3 73 (by decide +kernel) rfl, by decide, rfl, rfl⟩
theorem p_X4_63 : FP RX4 63 4 3 0 false .int := ⟨RX4, TX4, 20, tyX4, rfl, in_X4, gd_3 73 (by decide +kernel) rfl, by decide, rfl, rfl, tyX4_ok, nmX4, rfl, rfl, rfl⟩
theorem f_X4_16 : FF RX4 16 4 4 106 := ⟨RX4, TX4, 20, rfl, in_X4, gd_3 74 (by decide +kernel) rfl, by decide, rfl, rfl⟩
theorem p_X4_16 : FP RX4 16 4 4 106 true (.array .int) := ⟨RX4, TX4, 20, tyX4, rfl, in_X4, gd_3 74 (by decide +kernel) rfl, by decide, rfl, rfl, tyX4_ok, nmX4, rfl, rfl, rfl⟩
theorem f_X4_52 : FF RX4 52 4 5 0 := ⟨RX4, TX4, 20, rfl, in_X4, gd_3 75 (by decide +kernel) rfl, by decide, rfl, rfl⟩
theorem p_X4_52 : FP RX4 52 4 5 0 false .int := ⟨RX4, TX4, 20, tyX4, rfl, in_X4, gd_3 75 (by decide +kernel) rfl, by decide, rfl, rfl, tyX4_ok, nmX4, rfl, rfl, rfl⟩
theorem f_X4_19 : FF RX4 19 4 6 107 := ⟨RX4, TX4, 20, rfl, in_X4, gd_3 76 (by decide +kernel) rfl, by decide, rfl, rfl⟩
theorem p_X4_19 : FP RX4 19 4 6 107 true (.array .int) := ⟨RX4, TX4, 20, tyX4, rfl, in_X4, gd_3 76 (by decide +kernel) rfl, by decide, rfl, rfl, tyX4_ok, nmX4, rfl, rfl, rfl⟩
theorem f_X4_22 : FF RX4 22 4 7 108 := ⟨RX4, TX4, 20, rfl, in_X4, gd_3 77 (by decide +kernel) rfl, by decide, rfl, rfl⟩
theorem p_X4_22 : FP RX4 22 4 7 108 true (.array .int) := ⟨RX4, TX4, 20, tyX4, rfl, in_X4, gd_3 77 (by decide +kernel) rfl, by decide, rfl, rfl, tyX4_ok, nmX4, rfl, rfl, rfl⟩
theorem f_X4_25 : FF RX4 25 4 8 109 := ⟨RX4, TX4, 20, rfl, in_X4, gd_3 78 (by decide +kernel) rfl, by decide, rfl, rfl⟩
theorem p_X4_25 : FP RX4 25 4 8 109 true (.array .int) := ⟨RX4, TX4, 20, tyX4, rfl, in_X4, gd_3 78 (by decide +kernel) rfl, by decide, rfl, rfl, tyX4_ok, nmX4, rfl, rfl, rfl⟩
theorem f_X4_121 : FF RX4 121 4 9 0 := ⟨RX4, TX4, 20, rfl, in_X4, gd_3 79 (by decide +kernel) rfl, by decide, rfl, rfl⟩
theorem p_X4_121 : FP RX4 121 4 9 0 false .int := ⟨RX4, TX4, 20, tyX4, rfl, in_X4, gd_3 79 (by decide +kernel) rfl, by decide, rfl, rfl, tyX4_ok, nmX4, rfl, rfl, rfl⟩
theorem f_X4_28 : FF RX4 28 4 10 110 := ⟨RX4, TX4, 20, rfl, in_X4, gd_3 80 (by decide +kernel) rfl, by decide, rfl, rfl⟩
theorem p_X4_28 : FP RX4 28 4 10 110 true (.array .int) := ⟨RX4, TX4, 20, tyX4, rfl, in_X4, gd_3 80 (by decide +kernel) rfl, by decide, rfl, rfl, tyX4_ok, nmX4, rfl, rfl, rfl⟩
theorem f_X4_31 : FF RX4 31 4 11 111 := ⟨RX4, TX4, 20, rfl, in_X4, gd_3 81 (by decide +kernel) rfl, by decide, rfl, rfl⟩
theorem p_X4_31 : FP RX4 31 4 11 111 true (.array .int) := ⟨RX4, TX4, 20, tyX4, rfl, in_X4, gd_3 81 (by decide +kernel) rfl, by decide, rfl, rfl, tyX4_ok, nmX4, rfl, rfl, rfl⟩
theorem f_X4_34 : FF RX4 34 4 12 112 := ⟨RX4, TX4, 20, rfl, in_X4, gd_3 82 (by decide +kernel) rfl, by decide, rfl, rfl⟩
theorem p_X4_34 : FP RX4 34 4 12 112 true (.array .int) := ⟨RX4, TX4, 20, tyX4, rfl, in_X4, gd_3 82 (by decide +kernel) rfl, by decide, rfl, rfl, tyX4_ok, nmX4, rfl, rfl, rfl⟩
theorem f_X4_37 : FF RX4 37 4 13 113 := ⟨RX4, TX4, 20, rfl, in_X4, gd_3 83 (by decide +kernel) rfl, by decide, rfl, rfl⟩
theorem p_X4_37 : FP RX4 37 4 13 113 true (.array .int) := ⟨RX4, TX4, 20, tyX4, rfl, in_X4, gd_3 83 (by decide +kernel) rfl, by decide, rfl, rfl, tyX4_ok, nmX4, rfl, rfl, rfl⟩
theorem f_X4_40 : FF RX4 40 4 14 114 := ⟨RX4, TX4, 20, rfl, in_X4, gd_3 84 (by decide +kernel) rfl, by decide, rfl, rfl⟩
theorem p_X4_40 : FP RX4 40 4 14 114 true (.array .int) := ⟨RX4, TX4, 20, tyX4, rfl, in_X4, gd_3 84 (by decide +kernel) rfl, by decide, rfl, rfl, tyX4_ok, nmX4, rfl, rfl, rfl⟩
theorem f_X4_43 : FF RX4 43 4 15 115 := ⟨RX4, TX4, 20, rfl, in_X4, gd_3 85 (by decide +kernel) rfl, by decide, rfl, rfl⟩
theorem p_X4_43 : FP RX4 43 4 15 115 true (.array .int) := ⟨RX4, TX4, 20, tyX4, rfl, in_X4, gd_3 85 (by decide +kernel) rfl, by decide, rfl, rfl, tyX4_ok, nmX4, rfl, rfl, rfl⟩
theorem f_X4_46 : FF RX4 46 4 16 116 := ⟨RX4, TX4, 20, rfl, in_X4, gd_3 86 (by decide +kernel) rfl, by decide, rfl, rfl⟩
theorem p_X4_46 : FP RX4 46 4 16 116 true (.array .int) := ⟨RX4, TX4, 20, tyX4, rfl, in_X4, gd_3 86 (by decide +kernel) rfl, by decide, rfl, rfl, tyX4_ok, nmX4, rfl, rfl, rfl⟩
theorem f_X4_49 : FF RX4 49 4 17 117 := ⟨RX4, TX4, 20, rfl, in_X4, gd_3 87 (by decide +kernel) rfl, by decide, rfl, rfl⟩
theorem p_X4_49 : FP RX4 49 4 17 117 true (.array .int) := ⟨RX4, TX4, 20, tyX4, rfl, in_X4, gd_3 87 (by decide +kernel) rfl, by decide, rfl, rfl, tyX4_ok, nmX4, rfl, rfl, rfl⟩
theorem f_X4_124 : FF RX4 124 4 18 0 := ⟨RX4, TX4, 20, rfl, in_X4, gd_3 88 (by decide +kernel) rfl, by decide, rfl, rfl⟩
theorem p_X4_124 : FP RX4 124 4 18 0 false .int := ⟨RX4, TX4, 20, tyX4, rfl, in_X4, gd_3 88 (by decide +kernel) rfl, by decide, rfl, rfl, tyX4_ok, nmX4, rfl, rfl, rfl⟩
theorem f_X4_127 : FF RX4 127 4 19 0 := ⟨RX4, TX4, 20, rfl, in_X4, gd_3 89 (by decide +kernel) rfl, by decide, rfl, rfl⟩
theorem p_X4_127 : FP RX4 127 4 19 0 false .int := ⟨RX4, TX4, 20, tyX4, rfl, in_X4, gd_3 89 (by decide +kernel) rfl, by decide, rfl, rfl, tyX4_ok, nmX4, rfl, rfl, rfl⟩
theorem w0_X3_init : W0 yX3_init cX3_init 1 none 0 := ⟨gd_1 1 (by decide +kernel) rfl, gd_1 15 rfl rfl, by decide +kernel, by decide⟩
theorem ci_L_15 : WI RL 15 yX3_init cX3_init 1 0 := ⟨w0_X3_init, gd_1 13 (by decide +kernel) rfl, gd_1 14 (by decide +kernel) rfl, rfl⟩
theorem w0_X3_flight : W0 yX3_flight cX3_flight 8 (some .int) 6 := ⟨gd_1 1 (by decide +kernel) rfl, gd_1 101 rfl rfl, by decide +kernel, by decide⟩
theorem cv_L_19 : WV RL 19 yX3_flight cX3_flight 8 (some .int) 6 3 := ⟨w0_X3_flight, gd_1 98 (by decide +kernel) rfl, gd_1 99 (by decide +kernel) rfl, gd_1 100 (by decide +kernel) rfl, TX3, 8, rfl⟩
theorem w0_X3_within : W0 yX3_within cX3_within 3 (some .boolean) 3 := ⟨gd_1 1 (by decide +kernel) rfl, gd_1 104 rfl rfl, by decide +kernel, by decide⟩
theorem cs_X3_46 : WS RX3 46 yX3_within cX3_within 3 (some .boolean) 3 := ⟨w0_X3_within, gd_1 102 (by decide +kernel) rfl, gd_1 103 (by decide +kernel) rfl, rfl⟩
theorem w0_X0_init : W0 yX0_init cX0_init 8 none 7 := ⟨gd_1 4 (by decide +kernel) rfl, gd_1 108 rfl rfl, by decide +kernel, by decide⟩
theorem ci_X3_50 : WI RX3 50 yX0_init cX0_init 8 7 := ⟨w0_X0_init, gd_1 106 (by decide +kernel) rfl, gd_1 107 (by decide +kernel) rfl, rfl⟩
theorem w0_X3_off : W0 yX3_off cX3_off 4 (some .boolean) 2 := ⟨gd_1 1 (by decide +kernel) rfl, gd_1 152 rfl rfl, by decide +kernel, by decide⟩
theorem cv_L_24 : WV RL 24 yX3_off cX3_off 4 (some .boolean) 2 3 := ⟨w0_X3_off, gd_1 149 (by decide +kernel) rfl, gd_1 150 (by decide +kernel) rfl, gd_1 151 (by decide +kernel) rfl, TX3, 8, rfl⟩
theorem w0_X3_flightAt : W0 yX3_flightAt cX3_flightAt 2 (some (.object "TooMany$Flight")) 1 := ⟨gd_1 1 (by decide +kernel) rfl, gd_1 156 rfl rfl, by decide +kernel, by decide⟩
theorem cv_X3_53 : WV RX3 53 yX3_flightAt cX3_flightAt 2 (some (.object "TooMany$Flight")) 1 3 := ⟨w0_X3_flightAt, gd_1 153 (by decide +kernel) rfl, gd_1 155 (by decide +kernel) rfl, gd_s 0 (by decide +kernel) rfl, TX3, 8, rfl⟩
theorem w0_X3_party : W0 yX3_party cX3_party 8 (some .int) 5 := ⟨gd_1 1 (by decide +kernel) rfl, gd_1 160 rfl rfl, by decide +kernel, by decide⟩
theorem cv_L_29 : WV RL 29 yX3_party cX3_party 8 (some .int) 5 3 := ⟨w0_X3_party, gd_1 157 (by decide +kernel) rfl, gd_1 158 (by decide +kernel) rfl, gd_1 159 (by decide +kernel) rfl, TX3, 8, rfl⟩
theorem w0_X2_init : W0 yX2_init cX2_init 6 none 5 := ⟨gd_1 5 (by decide +kernel) rfl, gd_1 164 rfl rfl, by decide +kernel, by decide⟩
theorem ci_X3_61 : WI RX3 61 yX2_init cX2_init 6 5 := ⟨w0_X2_init, gd_1 162 (by decide +kernel) rfl, gd_1 163 (by decide +kernel) rfl, rfl⟩
theorem w0_X3_set : W0 yX3_set cX3_set 5 (some .int) 2 := ⟨gd_1 1 (by decide +kernel) rfl, gd_1 208 rfl rfl, by decide +kernel, by decide⟩
theorem cv_L_34 : WV RL 34 yX3_set cX3_set 5 (some .int) 2 3 := ⟨w0_X3_set, gd_1 205 (by decide +kernel) rfl, gd_1 206 (by decide +kernel) rfl, gd_1 207 (by decide +kernel) rfl, TX3, 8, rfl⟩
theorem w0_X3_setChange : W0 yX3_setChange cX3_setChange 3 (some .int) 1 := ⟨gd_1 1 (by decide +kernel) rfl, gd_1 212 rfl rfl, by decide +kernel, by decide⟩
theorem cv_X3_64 : WV RX3 64 yX3_setChange cX3_setChange 3 (some .int) 1 3 := ⟨w0_X3_setChange, gd_1 209 (by decide +kernel) rfl, gd_1 211 (by decide +kernel) rfl, gd_s 1 (by decide +kernel) rfl, TX3, 8, rfl⟩
theorem w0_X3_told : W0 yX3_told cX3_told 4 (some .int) 2 := ⟨gd_1 1 (by decide +kernel) rfl, gd_1 216 rfl rfl, by decide +kernel, by decide⟩
theorem cv_L_38 : WV RL 38 yX3_told cX3_told 4 (some .int) 2 3 := ⟨w0_X3_told, gd_1 213 (by decide +kernel) rfl, gd_1 214 (by decide +kernel) rfl, gd_1 215 (by decide +kernel) rfl, TX3, 8, rfl⟩
theorem w0_X3_loadOf : W0 yX3_loadOf cX3_loadOf 5 (some .int) 1 := ⟨gd_1 1 (by decide +kernel) rfl, gd_1 220 rfl rfl, by decide +kernel, by decide⟩
theorem cv_X3_68 : WV RX3 68 yX3_loadOf cX3_loadOf 5 (some .int) 1 3 := ⟨w0_X3_loadOf, gd_1 217 (by decide +kernel) rfl, gd_1 219 (by decide +kernel) rfl, gd_s 2 (by decide +kernel) rfl, TX3, 8, rfl⟩
theorem w0_X2_fliesOn : W0 yX2_fliesOn cX2_fliesOn 2 (some .boolean) 1 := ⟨gd_1 5 (by decide +kernel) rfl, gd_1 224 rfl rfl, by decide +kernel, by decide⟩
theorem cv_X3_218 : WV RX3 218 yX2_fliesOn cX2_fliesOn 2 (some .boolean) 1 2 := ⟨w0_X2_fliesOn, gd_1 221 (by decide +kernel) rfl, gd_1 222 (by decide +kernel) rfl, gd_1 223 (by decide +kernel) rfl, TX2, 9, rfl⟩
theorem w0_X3_overOf : W0 yX3_overOf cX3_overOf 3 (some .int) 1 := ⟨gd_1 1 (by decide +kernel) rfl, gd_1 228 rfl rfl, by decide +kernel, by decide⟩
theorem cv_X3_72 : WV RX3 72 yX3_overOf cX3_overOf 3 (some .int) 1 3 := ⟨w0_X3_overOf, gd_1 225 (by decide +kernel) rfl, gd_1 227 (by decide +kernel) rfl, gd_s 3 (by decide +kernel) rfl, TX3, 8, rfl⟩
theorem w0_J9_max_7cf53 : W0 yJ9_max_7cf53 cJ9_max_7cf53 2 (some .int) 2 := ⟨gd_1 6 (by decide +kernel) rfl, gd_1 231 rfl rfl, by decide +kernel, by decide⟩
theorem cm_X3_221 : Cond.methodLink RX3 221 Lib.Math.max.name ∈ gd ∧ Cond.static Lib.Math.max.name ∈ gd ∧ Cond.initialized "java/lang/Math" ∈ gd ∧ Cond.code Lib.Math.max.name Lib.Math.max.code 2 (some .int) ∈ gd := ⟨gd_1 229 (by decide +kernel) rfl, gd_1 230 (by decide +kernel) rfl, gd_1 6 (by decide +kernel) rfl, gd_1 231 rfl rfl⟩
theorem w0_X3_mustPeople : W0 yX3_mustPeople cX3_mustPeople 4 (some .int) 1 := ⟨gd_1 1 (by decide +kernel) rfl, gd_1 235 rfl rfl, by decide +kernel, by decide⟩
theorem cv_X3_78 : WV RX3 78 yX3_mustPeople cX3_mustPeople 4 (some .int) 1 3 := ⟨w0_X3_mustPeople, gd_1 232 (by decide +kernel) rfl, gd_1 234 (by decide +kernel) rfl, gd_s 4 (by decide +kernel) rfl, TX3, 8, rfl⟩
theorem w0_X3_count : W0 yX3_count cX3_count 2 (some .int) 1 := ⟨gd_1 1 (by decide +kernel) rfl, gd_1 239 rfl rfl, by decide +kernel, by decide⟩
theorem cv_L_52 : WV RL 52 yX3_count cX3_count 2 (some .int) 1 3 := ⟨w0_X3_count, gd_1 236 (by decide +kernel) rfl, gd_1 237 (by decide +kernel) rfl, gd_1 238 (by decide +kernel) rfl, TX3, 8, rfl⟩
theorem w0_X3_flyingPeople : W0 yX3_flyingPeople cX3_flyingPeople 3 (some .int) 0 := ⟨gd_1 1 (by decide +kernel) rfl, gd_2 3 rfl rfl, by decide +kernel, by decide⟩
theorem cv_X3_127 : WV RX3 127 yX3_flyingPeople cX3_flyingPeople 3 (some .int) 0 3 := ⟨w0_X3_flyingPeople, gd_2 0 (by decide +kernel) rfl, gd_2 2 (by decide +kernel) rfl, gd_s 5 (by decide +kernel) rfl, TX3, 8, rfl⟩
theorem w0_X3_peopleIn : W0 yX3_peopleIn cX3_peopleIn 4 (some .int) 1 := ⟨gd_1 1 (by decide +kernel) rfl, gd_2 7 rfl rfl, by decide +kernel, by decide⟩
theorem cv_X3_130 : WV RX3 130 yX3_peopleIn cX3_peopleIn 4 (some .int) 1 3 := ⟨w0_X3_peopleIn, gd_2 4 (by decide +kernel) rfl, gd_2 6 (by decide +kernel) rfl, gd_s 6 (by decide +kernel) rfl, TX3, 8, rfl⟩
theorem w0_X3_peopleWithWay : W0 yX3_peopleWithWay cX3_peopleWithWay 3 (some .int) 0 := ⟨gd_1 1 (by decide +kernel) rfl, gd_2 11 rfl rfl, by decide +kernel, by decide⟩
theorem cv_X3_133 : WV RX3 133 yX3_peopleWithWay cX3_peopleWithWay 3 (some .int) 0 3 := ⟨w0_X3_peopleWithWay, gd_2 8 (by decide +kernel) rfl, gd_2 10 (by decide +kernel) rfl, gd_s 7 (by decide +kernel) rfl, TX3, 8, rfl⟩
theorem w0_X3_allClaims : W0 yX3_allClaims cX3_allClaims 3 (some .int) 0 := ⟨gd_1 1 (by decide +kernel) rfl, gd_2 15 rfl rfl, by decide +kernel, by decide⟩
theorem cv_X3_136 : WV RX3 136 yX3_allClaims cX3_allClaims 3 (some .int) 0 3 := ⟨w0_X3_allClaims, gd_2 12 (by decide +kernel) rfl, gd_2 14 (by decide +kernel) rfl, gd_s 8 (by decide +kernel) rfl, TX3, 8, rfl⟩
theorem w0_X3_claimOf : W0 yX3_claimOf cX3_claimOf 4 (some .int) 1 := ⟨gd_1 1 (by decide +kernel) rfl, gd_2 19 rfl rfl, by decide +kernel, by decide⟩
theorem cv_X3_121 : WV RX3 121 yX3_claimOf cX3_claimOf 4 (some .int) 1 3 := ⟨w0_X3_claimOf, gd_2 16 (by decide +kernel) rfl, gd_2 18 (by decide +kernel) rfl, gd_s 9 (by decide +kernel) rfl, TX3, 8, rfl⟩
theorem w0_X3_baseFee : W0 yX3_baseFee cX3_baseFee 2 (some .int) 1 := ⟨gd_1 1 (by decide +kernel) rfl, gd_2 23 rfl rfl, by decide +kernel, by decide⟩
theorem cv_X3_233 : WV RX3 233 yX3_baseFee cX3_baseFee 2 (some .int) 1 3 := ⟨w0_X3_baseFee, gd_2 20 (by decide +kernel) rfl, gd_2 22 (by decide +kernel) rfl, gd_s 10 (by decide +kernel) rfl, TX3, 8, rfl⟩
theorem w0_X2_lateByWay : W0 yX2_lateByWay cX2_lateByWay 1 (some .int) 0 := ⟨gd_1 5 (by decide +kernel) rfl, gd_2 27 rfl rfl, by decide +kernel, by decide⟩
theorem cv_X3_117 : WV RX3 117 yX2_lateByWay cX2_lateByWay 1 (some .int) 0 2 := ⟨w0_X2_lateByWay, gd_2 24 (by decide +kernel) rfl, gd_2 25 (by decide +kernel) rfl, gd_2 26 (by decide +kernel) rfl, TX2, 9, rfl⟩
theorem w0_X2_lateBy : W0 yX2_lateBy cX2_lateBy 4 (some .int) 2 := ⟨gd_1 5 (by decide +kernel) rfl, gd_2 31 rfl rfl, by decide +kernel, by decide⟩
theorem cv_X2_64 : WV RX2 64 yX2_lateBy cX2_lateBy 4 (some .int) 2 2 := ⟨w0_X2_lateBy, gd_2 28 (by decide +kernel) rfl, gd_2 29 (by decide +kernel) rfl, gd_2 30 (by decide +kernel) rfl, TX2, 9, rfl⟩
theorem cm_X2_58 : Cond.methodLink RX2 58 Lib.Math.max.name ∈ gd ∧ Cond.static Lib.Math.max.name ∈ gd ∧ Cond.initialized "java/lang/Math" ∈ gd ∧ Cond.code Lib.Math.max.name Lib.Math.max.code 2 (some .int) ∈ gd := ⟨gd_2 32 (by decide +kernel) rfl, gd_1 230 (by decide +kernel) rfl, gd_1 6 (by decide +kernel) rfl, gd_1 231 rfl rfl⟩
theorem w0_X3_cost : W0 yX3_cost cX3_cost 5 (some .int) 1 := ⟨gd_1 1 (by decide +kernel) rfl, gd_2 36 rfl rfl, by decide +kernel, by decide⟩
theorem cv_L_57 : WV RL 57 yX3_cost cX3_cost 5 (some .int) 1 3 := ⟨w0_X3_cost, gd_2 33 (by decide +kernel) rfl, gd_2 34 (by decide +kernel) rfl, gd_2 35 (by decide +kernel) rfl, TX3, 8, rfl⟩
theorem w0_X3_cheapestDeal : W0 yX3_cheapestDeal cX3_cheapestDeal 6 (some .long) 2 := ⟨gd_1 1 (by decide +kernel) rfl, gd_2 40 rfl rfl, by decide +kernel, by decide⟩
theorem cv_X3_139 : WV RX3 139 yX3_cheapestDeal cX3_cheapestDeal 6 (some .long) 2 3 := ⟨w0_X3_cheapestDeal, gd_2 37 (by decide +kernel) rfl, gd_2 39 (by decide +kernel) rfl, gd_s 11 (by decide +kernel) rfl, TX3, 8, rfl⟩
theorem w0_X2_wouldGive : W0 yX2_wouldGive cX2_wouldGive 2 (some .boolean) 1 := ⟨gd_1 5 (by decide +kernel) rfl, gd_2 45 rfl rfl, by decide +kernel, by decide⟩
theorem cv_X3_238 : WV RX3 238 yX2_wouldGive cX2_wouldGive 2 (some .boolean) 1 2 := ⟨w0_X2_wouldGive, gd_2 42 (by decide +kernel) rfl, gd_2 43 (by decide +kernel) rfl, gd_2 44 (by decide +kernel) rfl, TX2, 9, rfl⟩
theorem cv_X2_41 : WV RX2 41 yX2_fliesOn cX2_fliesOn 2 (some .boolean) 1 2 := ⟨w0_X2_fliesOn, gd_2 46 (by decide +kernel) rfl, gd_1 222 (by decide +kernel) rfl, gd_1 223 (by decide +kernel) rfl, TX2, 9, rfl⟩
theorem w0_X3_offerDeals : W0 yX3_offerDeals cX3_offerDeals 8 none 3 := ⟨gd_1 1 (by decide +kernel) rfl, gd_2 50 rfl rfl, by decide +kernel, by decide⟩
theorem cv_X3_241 : WV RX3 241 yX3_offerDeals cX3_offerDeals 8 none 3 3 := ⟨w0_X3_offerDeals, gd_2 47 (by decide +kernel) rfl, gd_2 49 (by decide +kernel) rfl, gd_s 12 (by decide +kernel) rfl, TX3, 8, rfl⟩
theorem w0_X3_leastDeal : W0 yX3_leastDeal cX3_leastDeal 8 (some .long) 2 := ⟨gd_1 1 (by decide +kernel) rfl, gd_2 54 rfl rfl, by decide +kernel, by decide⟩
theorem cv_X3_245 : WV RX3 245 yX3_leastDeal cX3_leastDeal 8 (some .long) 2 3 := ⟨w0_X3_leastDeal, gd_2 51 (by decide +kernel) rfl, gd_2 53 (by decide +kernel) rfl, gd_s 13 (by decide +kernel) rfl, TX3, 8, rfl⟩
theorem w0_X3_coinOfDeal : W0 yX3_coinOfDeal cX3_coinOfDeal 2 (some .int) 1 := ⟨gd_1 1 (by decide +kernel) rfl, gd_2 57 rfl rfl, by decide +kernel, by decide⟩
theorem cs_X3_143 : WS RX3 143 yX3_coinOfDeal cX3_coinOfDeal 2 (some .int) 1 := ⟨w0_X3_coinOfDeal, gd_2 55 (by decide +kernel) rfl, gd_2 56 (by decide +kernel) rfl, rfl⟩
theorem w0_X3_buy : W0 yX3_buy cX3_buy 6 (some .int) 1 := ⟨gd_1 1 (by decide +kernel) rfl, gd_2 61 rfl rfl, by decide +kernel, by decide⟩
theorem cv_L_61 : WV RL 61 yX3_buy cX3_buy 6 (some .int) 1 3 := ⟨w0_X3_buy, gd_2 58 (by decide +kernel) rfl, gd_2 59 (by decide +kernel) rfl, gd_2 60 (by decide +kernel) rfl, TX3, 8, rfl⟩
theorem w0_X3_has : W0 yX3_has cX3_has 3 (some .boolean) 2 := ⟨gd_1 1 (by decide +kernel) rfl, gd_2 64 rfl rfl, by decide +kernel, by decide⟩
theorem cs_X3_147 : WS RX3 147 yX3_has cX3_has 3 (some .boolean) 2 := ⟨w0_X3_has, gd_2 62 (by decide +kernel) rfl, gd_2 63 (by decide +kernel) rfl, rfl⟩
theorem w0_X2_giveUp : W0 yX2_giveUp cX2_giveUp 3 none 2 := ⟨gd_1 5 (by decide +kernel) rfl, gd_2 68 rfl rfl, by decide +kernel, by decide⟩
theorem cv_X3_154 : WV RX3 154 yX2_giveUp cX2_giveUp 3 none 2 2 := ⟨w0_X2_giveUp, gd_2 65 (by decide +kernel) rfl, gd_2 66 (by decide +kernel) rfl, gd_2 67 (by decide +kernel) rfl, TX2, 9, rfl⟩
theorem w0_X3_rounds : W0 yX3_rounds cX3_rounds 9 (some .int) 3 := ⟨gd_1 1 (by decide +kernel) rfl, gd_2 72 rfl rfl, by decide +kernel, by decide⟩
theorem cv_L_65 : WV RL 65 yX3_rounds cX3_rounds 9 (some .int) 3 3 := ⟨w0_X3_rounds, gd_2 69 (by decide +kernel) rfl, gd_2 70 (by decide +kernel) rfl, gd_2 71 (by decide +kernel) rfl, TX3, 8, rfl⟩
theorem w0_X3_lowestBidders : W0 yX3_lowestBidders cX3_lowestBidders 7 (some .int) 2 := ⟨gd_1 1 (by decide +kernel) rfl, gd_2 76 rfl rfl, by decide +kernel, by decide⟩
theorem cv_X3_158 : WV RX3 158 yX3_lowestBidders cX3_lowestBidders 7 (some .int) 2 3 := ⟨w0_X3_lowestBidders, gd_2 73 (by decide +kernel) rfl, gd_2 75 (by decide +kernel) rfl, gd_s 14 (by decide +kernel) rfl, TX3, 8, rfl⟩
theorem w0_X3_nextBidder : W0 yX3_nextBidder cX3_nextBidder 5 (some .int) 2 := ⟨gd_1 1 (by decide +kernel) rfl, gd_2 80 rfl rfl, by decide +kernel, by decide⟩
theorem cv_X3_249 : WV RX3 249 yX3_nextBidder cX3_nextBidder 5 (some .int) 2 3 := ⟨w0_X3_nextBidder, gd_2 77 (by decide +kernel) rfl, gd_2 79 (by decide +kernel) rfl, gd_s 15 (by decide +kernel) rfl, TX3, 8, rfl⟩
theorem w0_X3_highestBid : W0 yX3_highestBid cX3_highestBid 4 (some .int) 1 := ⟨gd_1 1 (by decide +kernel) rfl, gd_2 84 rfl rfl, by decide +kernel, by decide⟩
theorem cv_X3_162 : WV RX3 162 yX3_highestBid cX3_highestBid 4 (some .int) 1 3 := ⟨w0_X3_highestBid, gd_2 81 (by decide +kernel) rfl, gd_2 83 (by decide +kernel) rfl, gd_s 16 (by decide +kernel) rfl, TX3, 8, rfl⟩
theorem w0_X3_firstOffer : W0 yX3_firstOffer cX3_firstOffer 4 (some .int) 3 := ⟨gd_1 1 (by decide +kernel) rfl, gd_2 87 rfl rfl, by decide +kernel, by decide⟩
theorem cs_X3_165 : WS RX3 165 yX3_firstOffer cX3_firstOffer 4 (some .int) 3 := ⟨w0_X3_firstOffer, gd_2 85 (by decide +kernel) rfl, gd_2 86 (by decide +kernel) rfl, rfl⟩
theorem w0_X3_leave : W0 yX3_leave cX3_leave 7 (some .int) 1 := ⟨gd_1 1 (by decide +kernel) rfl, gd_2 91 rfl rfl, by decide +kernel, by decide⟩
theorem cv_L_70 : WV RL 70 yX3_leave cX3_leave 7 (some .int) 1 3 := ⟨w0_X3_leave, gd_2 88 (by decide +kernel) rfl, gd_2 89 (by decide +kernel) rfl, gd_2 90 (by decide +kernel) rfl, TX3, 8, rfl⟩
theorem w0_X3_leavablePeople : W0 yX3_leavablePeople cX3_leavablePeople 4 (some .int) 1 := ⟨gd_1 1 (by decide +kernel) rfl, gd_2 95 rfl rfl, by decide +kernel, by decide⟩
theorem cv_X3_169 : WV RX3 169 yX3_leavablePeople cX3_leavablePeople 4 (some .int) 1 3 := ⟨w0_X3_leavablePeople, gd_2 92 (by decide +kernel) rfl, gd_2 94 (by decide +kernel) rfl, gd_s 17 (by decide +kernel) rfl, TX3, 8, rfl⟩
theorem w0_X3_nextToLeave : W0 yX3_nextToLeave cX3_nextToLeave 5 (some (.object "TooMany$Party")) 1 := ⟨gd_1 1 (by decide +kernel) rfl, gd_2 99 rfl rfl, by decide +kernel, by decide⟩
theorem cv_X3_172 : WV RX3 172 yX3_nextToLeave cX3_nextToLeave 5 (some (.object "TooMany$Party")) 1 3 := ⟨w0_X3_nextToLeave, gd_2 96 (by decide +kernel) rfl, gd_2 98 (by decide +kernel) rfl, gd_s 18 (by decide +kernel) rfl, TX3, 8, rfl⟩
theorem w0_X3_back : W0 yX3_back cX3_back 3 (some .boolean) 1 := ⟨gd_1 1 (by decide +kernel) rfl, gd_2 103 rfl rfl, by decide +kernel, by decide⟩
theorem cv_L_74 : WV RL 74 yX3_back cX3_back 3 (some .boolean) 1 3 := ⟨w0_X3_back, gd_2 100 (by decide +kernel) rfl, gd_2 101 (by decide +kernel) rfl, gd_2 102 (by decide +kernel) rfl, TX3, 8, rfl⟩
theorem w0_X3_partyAt : W0 yX3_partyAt cX3_partyAt 2 (some (.object "TooMany$Party")) 1 := ⟨gd_1 1 (by decide +kernel) rfl, gd_2 107 rfl rfl, by decide +kernel, by decide⟩
theorem cv_X3_81 : WV RX3 81 yX3_partyAt cX3_partyAt 2 (some (.object "TooMany$Party")) 1 3 := ⟨w0_X3_partyAt, gd_2 104 (by decide +kernel) rfl, gd_2 106 (by decide +kernel) rfl, gd_s 19 (by decide +kernel) rfl, TX3, 8, rfl⟩
theorem w0_X2_flyAgain : W0 yX2_flyAgain cX2_flyAgain 1 none 0 := ⟨gd_1 5 (by decide +kernel) rfl, gd_2 111 rfl rfl, by decide +kernel, by decide⟩
theorem cv_X3_176 : WV RX3 176 yX2_flyAgain cX2_flyAgain 1 none 0 2 := ⟨w0_X2_flyAgain, gd_2 108 (by decide +kernel) rfl, gd_2 109 (by decide +kernel) rfl, gd_2 110 (by decide +kernel) rfl, TX2, 9, rfl⟩
theorem cv_X2_45 : WV RX2 45 yX2_giveUp cX2_giveUp 3 none 2 2 := ⟨w0_X2_giveUp, gd_2 112 (by decide +kernel) rfl, gd_2 66 (by decide +kernel) rfl, gd_2 67 (by decide +kernel) rfl, TX2, 9, rfl⟩
theorem w0_X2_takeWay : W0 yX2_takeWay cX2_takeWay 3 none 2 := ⟨gd_1 5 (by decide +kernel) rfl, gd_2 116 rfl rfl, by decide +kernel, by decide⟩
theorem cv_X2_49 : WV RX2 49 yX2_takeWay cX2_takeWay 3 none 2 2 := ⟨w0_X2_takeWay, gd_2 113 (by decide +kernel) rfl, gd_2 114 (by decide +kernel) rfl, gd_2 115 (by decide +kernel) rfl, TX2, 9, rfl⟩
theorem w0_X3_late : W0 yX3_late cX3_late 7 (some .int) 3 := ⟨gd_1 1 (by decide +kernel) rfl, gd_2 120 rfl rfl, by decide +kernel, by decide⟩
theorem cv_L_79 : WV RL 79 yX3_late cX3_late 7 (some .int) 3 3 := ⟨w0_X3_late, gd_2 117 (by decide +kernel) rfl, gd_2 118 (by decide +kernel) rfl, gd_2 119 (by decide +kernel) rfl, TX3, 8, rfl⟩
theorem w0_X3_isWay : W0 yX3_isWay cX3_isWay 5 (some .boolean) 3 := ⟨gd_1 1 (by decide +kernel) rfl, gd_2 124 rfl rfl, by decide +kernel, by decide⟩
theorem cv_X3_179 : WV RX3 179 yX3_isWay cX3_isWay 5 (some .boolean) 3 3 := ⟨w0_X3_isWay, gd_2 121 (by decide +kernel) rfl, gd_2 123 (by decide +kernel) rfl, gd_s 20 (by decide +kernel) rfl, TX3, 8, rfl⟩
theorem cv_X3_183 : WV RX3 183 yX2_lateBy cX2_lateBy 4 (some .int) 2 2 := ⟨w0_X2_lateBy, gd_2 125 (by decide +kernel) rfl, gd_2 29 (by decide +kernel) rfl, gd_2 30 (by decide +kernel) rfl, TX2, 9, rfl⟩
theorem w0_X3_stranded : W0 yX3_stranded cX3_stranded 3 (some .int) 0 := ⟨gd_1 1 (by decide +kernel) rfl, gd_2 129 rfl rfl, by decide +kernel, by decide⟩
theorem cv_L_83 : WV RL 83 yX3_stranded cX3_stranded 3 (some .int) 0 3 := ⟨w0_X3_stranded, gd_2 126 (by decide +kernel) rfl, gd_2 127 (by decide +kernel) rfl, gd_2 128 (by decide +kernel) rfl, TX3, 8, rfl⟩
theorem w0_X2_isStranded : W0 yX2_isStranded cX2_isStranded 1 (some .boolean) 0 := ⟨gd_1 5 (by decide +kernel) rfl, gd_2 133 rfl rfl, by decide +kernel, by decide⟩
theorem cv_X3_187 : WV RX3 187 yX2_isStranded cX2_isStranded 1 (some .boolean) 0 2 := ⟨w0_X2_isStranded, gd_2 130 (by decide +kernel) rfl, gd_2 131 (by decide +kernel) rfl, gd_2 132 (by decide +kernel) rfl, TX2, 9, rfl⟩
theorem w0_X3_move : W0 yX3_move cX3_move 2 (some .int) 0 := ⟨gd_1 1 (by decide +kernel) rfl, gd_2 137 rfl rfl, by decide +kernel, by decide⟩
theorem cv_L_87 : WV RL 87 yX3_move cX3_move 2 (some .int) 0 3 := ⟨w0_X3_move, gd_2 134 (by decide +kernel) rfl, gd_2 135 (by decide +kernel) rfl, gd_2 136 (by decide +kernel) rfl, TX3, 8, rfl⟩
theorem cv_X3_191 : WV RX3 191 yX3_stranded cX3_stranded 3 (some .int) 0 3 := ⟨w0_X3_stranded, gd_2 138 (by decide +kernel) rfl, gd_2 127 (by decide +kernel) rfl, gd_2 128 (by decide +kernel) rfl, TX3, 8, rfl⟩
theorem w0_X1_begin : W0 yX1_begin cX1_begin 1 none 0 := ⟨gd_1 2 (by decide +kernel) rfl, gd_2 142 rfl rfl, by decide +kernel, by decide⟩
theorem cv_X3_197 : WV RX3 197 yX1_begin cX1_begin 1 none 0 1 := ⟨w0_X1_begin, gd_2 139 (by decide +kernel) rfl, gd_2 140 (by decide +kernel) rfl, gd_2 141 (by decide +kernel) rfl, TX1, 13, rfl⟩
theorem w0_X3_addStranded : W0 yX3_addStranded cX3_addStranded 4 none 1 := ⟨gd_1 1 (by decide +kernel) rfl, gd_2 146 rfl rfl, by decide +kernel, by decide⟩
theorem cv_X3_200 : WV RX3 200 yX3_addStranded cX3_addStranded 4 none 1 3 := ⟨w0_X3_addStranded, gd_2 143 (by decide +kernel) rfl, gd_2 145 (by decide +kernel) rfl, gd_s 21 (by decide +kernel) rfl, TX3, 8, rfl⟩
theorem w0_X1_addParty : W0 yX1_addParty cX1_addParty 3 none 2 := ⟨gd_1 2 (by decide +kernel) rfl, gd_2 150 rfl rfl, by decide +kernel, by decide⟩
theorem cv_X3_267 : WV RX3 267 yX1_addParty cX1_addParty 3 none 2 1 := ⟨w0_X1_addParty, gd_2 147 (by decide +kernel) rfl, gd_2 148 (by decide +kernel) rfl, gd_2 149 (by decide +kernel) rfl, TX1, 13, rfl⟩
theorem w0_X1_lastTwin : W0 yX1_lastTwin cX1_lastTwin 3 (some .int) 1 := ⟨gd_1 2 (by decide +kernel) rfl, gd_2 154 rfl rfl, by decide +kernel, by decide⟩
theorem cv_X1_60 : WV RX1 60 yX1_lastTwin cX1_lastTwin 3 (some .int) 1 1 := ⟨w0_X1_lastTwin, gd_2 151 (by decide +kernel) rfl, gd_2 153 (by decide +kernel) rfl, gd_s 22 (by decide +kernel) rfl, TX1, 13, rfl⟩
theorem w0_X3_addWays : W0 yX3_addWays cX3_addWays 4 none 1 := ⟨gd_1 1 (by decide +kernel) rfl, gd_2 158 rfl rfl, by decide +kernel, by decide⟩
theorem cv_X3_271 : WV RX3 271 yX3_addWays cX3_addWays 4 none 1 3 := ⟨w0_X3_addWays, gd_2 155 (by decide +kernel) rfl, gd_2 157 (by decide +kernel) rfl, gd_s 23 (by decide +kernel) rfl, TX3, 8, rfl⟩
theorem w0_X1_addWay : W0 yX1_addWay cX1_addWay 9 none 2 := ⟨gd_1 2 (by decide +kernel) rfl, gd_2 162 rfl rfl, by decide +kernel, by decide⟩
theorem cv_X3_275 : WV RX3 275 yX1_addWay cX1_addWay 9 none 2 1 := ⟨w0_X1_addWay, gd_2 159 (by decide +kernel) rfl, gd_2 160 (by decide +kernel) rfl, gd_2 161 (by decide +kernel) rfl, TX1, 13, rfl⟩
theorem cv_X1_64 : WV RX1 64 yX2_lateBy cX2_lateBy 4 (some .int) 2 2 := ⟨w0_X2_lateBy, gd_2 163 (by decide +kernel) rfl, gd_2 29 (by decide +kernel) rfl, gd_2 30 (by decide +kernel) rfl, TX2, 9, rfl⟩
theorem w0_X1_worthOf : W0 yX1_worthOf cX1_worthOf 8 (some .long) 3 := ⟨gd_1 2 (by decide +kernel) rfl, gd_2 167 rfl rfl, by decide +kernel, by decide⟩
theorem cv_X1_68 : WV RX1 68 yX1_worthOf cX1_worthOf 8 (some .long) 3 1 := ⟨w0_X1_worthOf, gd_2 164 (by decide +kernel) rfl, gd_2 166 (by decide +kernel) rfl, gd_s 24 (by decide +kernel) rfl, TX1, 13, rfl⟩
theorem w0_X1_putWay : W0 yX1_putWay cX1_putWay 7 none 5 := ⟨gd_1 2 (by decide +kernel) rfl, gd_2 172 rfl rfl, by decide +kernel, by decide⟩
theorem cv_X1_72 : WV RX1 72 yX1_putWay cX1_putWay 7 none 5 1 := ⟨w0_X1_putWay, gd_2 169 (by decide +kernel) rfl, gd_2 171 (by decide +kernel) rfl, gd_s 25 (by decide +kernel) rfl, TX1, 13, rfl⟩
theorem w0_X1_findBest : W0 yX1_findBest cX1_findBest 2 none 0 := ⟨gd_1 2 (by decide +kernel) rfl, gd_2 176 rfl rfl, by decide +kernel, by decide⟩
theorem cv_X3_204 : WV RX3 204 yX1_findBest cX1_findBest 2 none 0 1 := ⟨w0_X1_findBest, gd_2 173 (by decide +kernel) rfl, gd_2 174 (by decide +kernel) rfl, gd_2 175 (by decide +kernel) rfl, TX1, 13, rfl⟩
theorem w0_X1_choose : W0 yX1_choose cX1_choose 7 none 2 := ⟨gd_1 2 (by decide +kernel) rfl, gd_2 180 rfl rfl, by decide +kernel, by decide⟩
theorem cv_X1_79 : WV RX1 79 yX1_choose cX1_choose 7 none 2 1 := ⟨w0_X1_choose, gd_2 177 (by decide +kernel) rfl, gd_2 179 (by decide +kernel) rfl, gd_s 26 (by decide +kernel) rfl, TX1, 13, rfl⟩
theorem w0_X1_keepIfBetter : W0 yX1_keepIfBetter cX1_keepIfBetter 4 none 1 := ⟨gd_1 2 (by decide +kernel) rfl, gd_2 184 rfl rfl, by decide +kernel, by decide⟩
theorem cv_X1_92 : WV RX1 92 yX1_keepIfBetter cX1_keepIfBetter 4 none 1 1 := ⟨w0_X1_keepIfBetter, gd_2 181 (by decide +kernel) rfl, gd_2 183 (by decide +kernel) rfl, gd_s 27 (by decide +kernel) rfl, TX1, 13, rfl⟩
theorem w0_X1_mayBeat : W0 yX1_mayBeat cX1_mayBeat 7 (some .boolean) 2 := ⟨gd_1 2 (by decide +kernel) rfl, gd_2 188 rfl rfl, by decide +kernel, by decide⟩
theorem cv_X1_96 : WV RX1 96 yX1_mayBeat cX1_mayBeat 7 (some .boolean) 2 1 := ⟨w0_X1_mayBeat, gd_2 185 (by decide +kernel) rfl, gd_2 187 (by decide +kernel) rfl, gd_s 28 (by decide +kernel) rfl, TX1, 13, rfl⟩
theorem w0_X1_mostWorth : W0 yX1_mostWorth cX1_mostWorth 4 (some .long) 1 := ⟨gd_1 2 (by decide +kernel) rfl, gd_2 192 rfl rfl, by decide +kernel, by decide⟩
theorem cv_X1_115 : WV RX1 115 yX1_mostWorth cX1_mostWorth 4 (some .long) 1 1 := ⟨w0_X1_mostWorth, gd_2 189 (by decide +kernel) rfl, gd_2 191 (by decide +kernel) rfl, gd_s 29 (by decide +kernel) rfl, TX1, 13, rfl⟩
theorem w0_X1_fits : W0 yX1_fits cX1_fits 4 (some .boolean) 2 := ⟨gd_1 2 (by decide +kernel) rfl, gd_2 196 rfl rfl, by decide +kernel, by decide⟩
theorem cv_X1_104 : WV RX1 104 yX1_fits cX1_fits 4 (some .boolean) 2 1 := ⟨w0_X1_fits, gd_2 193 (by decide +kernel) rfl, gd_2 195 (by decide +kernel) rfl, gd_s 30 (by decide +kernel) rfl, TX1, 13, rfl⟩
theorem w0_X1_twinPlace : W0 yX1_twinPlace cX1_twinPlace 3 (some .int) 1 := ⟨gd_1 2 (by decide +kernel) rfl, gd_2 200 rfl rfl, by decide +kernel, by decide⟩
theorem cv_X1_100 : WV RX1 100 yX1_twinPlace cX1_twinPlace 3 (some .int) 1 1 := ⟨w0_X1_twinPlace, gd_2 197 (by decide +kernel) rfl, gd_2 199 (by decide +kernel) rfl, gd_s 31 (by decide +kernel) rfl, TX1, 13, rfl⟩
theorem w0_X1_betterHasRoom : W0 yX1_betterHasRoom cX1_betterHasRoom 5 (some .boolean) 2 := ⟨gd_1 2 (by decide +kernel) rfl, gd_2 204 rfl rfl, by decide +kernel, by decide⟩
theorem cv_X1_108 : WV RX1 108 yX1_betterHasRoom cX1_betterHasRoom 5 (some .boolean) 2 1 := ⟨w0_X1_betterHasRoom, gd_2 201 (by decide +kernel) rfl, gd_2 203 (by decide +kernel) rfl, gd_s 32 (by decide +kernel) rfl, TX1, 13, rfl⟩
theorem w0_X1_hasRoom : W0 yX1_hasRoom cX1_hasRoom 5 (some .boolean) 3 := ⟨gd_1 2 (by decide +kernel) rfl, gd_2 208 rfl rfl, by decide +kernel, by decide⟩
theorem cv_X1_122 : WV RX1 122 yX1_hasRoom cX1_hasRoom 5 (some .boolean) 3 1 := ⟨w0_X1_hasRoom, gd_2 205 (by decide +kernel) rfl, gd_2 207 (by decide +kernel) rfl, gd_s 33 (by decide +kernel) rfl, TX1, 13, rfl⟩
theorem w0_X1_fill : W0 yX1_fill cX1_fill 3 none 2 := ⟨gd_1 2 (by decide +kernel) rfl, gd_2 212 rfl rfl, by decide +kernel, by decide⟩
theorem cv_X1_111 : WV RX1 111 yX1_fill cX1_fill 3 none 2 1 := ⟨w0_X1_fill, gd_2 209 (by decide +kernel) rfl, gd_2 211 (by decide +kernel) rfl, gd_s 34 (by decide +kernel) rfl, TX1, 13, rfl⟩
theorem w0_X1_giveWays : W0 yX1_giveWays cX1_giveWays 4 (some .int) 0 := ⟨gd_1 2 (by decide +kernel) rfl, gd_2 216 rfl rfl, by decide +kernel, by decide⟩
theorem cv_X3_207 : WV RX3 207 yX1_giveWays cX1_giveWays 4 (some .int) 0 1 := ⟨w0_X1_giveWays, gd_2 213 (by decide +kernel) rfl, gd_2 214 (by decide +kernel) rfl, gd_2 215 (by decide +kernel) rfl, TX1, 13, rfl⟩
theorem cv_X1_83 : WV RX1 83 yX2_takeWay cX2_takeWay 3 none 2 2 := ⟨w0_X2_takeWay, gd_2 217 (by decide +kernel) rfl, gd_2 114 (by decide +kernel) rfl, gd_2 115 (by decide +kernel) rfl, TX2, 9, rfl⟩
theorem w0_X3_undo : W0 yX3_undo cX3_undo 4 (some .int) 0 := ⟨gd_1 1 (by decide +kernel) rfl, gd_2 221 rfl rfl, by decide +kernel, by decide⟩
theorem cv_L_91 : WV RL 91 yX3_undo cX3_undo 4 (some .int) 0 3 := ⟨w0_X3_undo, gd_2 218 (by decide +kernel) rfl, gd_2 219 (by decide +kernel) rfl, gd_2 220 (by decide +kernel) rfl, TX3, 8, rfl⟩
theorem w0_X3_isOffFlight : W0 yX3_isOffFlight cX3_isOffFlight 1 (some .boolean) 1 := ⟨gd_1 1 (by decide +kernel) rfl, gd_2 224 rfl rfl, by decide +kernel, by decide⟩
theorem cs_X3_210 : WS RX3 210 yX3_isOffFlight cX3_isOffFlight 1 (some .boolean) 1 := ⟨w0_X3_isOffFlight, gd_2 222 (by decide +kernel) rfl, gd_2 223 (by decide +kernel) rfl, rfl⟩
theorem cv_X3_214 : WV RX3 214 yX2_takeWay cX2_takeWay 3 none 2 2 := ⟨w0_X2_takeWay, gd_2 225 (by decide +kernel) rfl, gd_2 114 (by decide +kernel) rfl, gd_2 115 (by decide +kernel) rfl, TX2, 9, rfl⟩
theorem w0_X3_of : W0 yX3_of cX3_of 4 (some .int) 2 := ⟨gd_1 1 (by decide +kernel) rfl, gd_2 233 rfl rfl, by decide +kernel, by decide⟩
theorem cv_L_7 : WV RL 7 yX3_of cX3_of 4 (some .int) 2 3 := ⟨w0_X3_of, gd_2 230 (by decide +kernel) rfl, gd_2 231 (by decide +kernel) rfl, gd_2 232 (by decide +kernel) rfl, TX3, 8, rfl⟩
theorem w0_X3_numberOf : W0 yX3_numberOf cX3_numberOf 1 (some .int) 1 := ⟨gd_1 1 (by decide +kernel) rfl, gd_3 62 rfl rfl, by decide +kernel, by decide⟩
theorem cs_X3_111 : WS RX3 111 yX3_numberOf cX3_numberOf 1 (some .int) 1 := ⟨w0_X3_numberOf, gd_3 60 (by decide +kernel) rfl, gd_3 61 (by decide +kernel) rfl, rfl⟩
theorem w0_X4_init : W0 yX4_init cX4_init 1 none 0 := ⟨gd_1 3 (by decide +kernel) rfl, gd_3 68 rfl rfl, by decide +kernel, by decide⟩
theorem ci_L_18 : WI RL 18 yX4_init cX4_init 1 0 := ⟨w0_X4_init, gd_3 66 (by decide +kernel) rfl, gd_3 67 (by decide +kernel) rfl, rfl⟩
theorem w0_X4_thrown : W0 yX4_thrown cX4_thrown 1 (some .int) 0 := ⟨gd_1 3 (by decide +kernel) rfl, gd_3 134 rfl rfl, by decide +kernel, by decide⟩
theorem cv_L_48 : WV RL 48 yX4_thrown cX4_thrown 1 (some .int) 0 4 := ⟨w0_X4_thrown, gd_3 131 (by decide +kernel) rfl, gd_3 132 (by decide +kernel) rfl, gd_3 133 (by decide +kernel) rfl, TX4, 20, rfl⟩
theorem w0_X4_flight : W0 yX4_flight cX4_flight 9 (some .int) 6 := ⟨gd_1 3 (by decide +kernel) rfl, gd_3 138 rfl rfl, by decide +kernel, by decide⟩
theorem cv_L_23 : WV RL 23 yX4_flight cX4_flight 9 (some .int) 6 4 := ⟨w0_X4_flight, gd_3 135 (by decide +kernel) rfl, gd_3 136 (by decide +kernel) rfl, gd_3 137 (by decide +kernel) rfl, TX4, 20, rfl⟩
theorem w0_X4_in : W0 yX4_in cX4_in 3 (some .boolean) 3 := ⟨gd_1 3 (by decide +kernel) rfl, gd_3 141 rfl rfl, by decide +kernel, by decide⟩
theorem cs_X4_59 : WS RX4 59 yX4_in cX4_in 3 (some .boolean) 3 := ⟨w0_X4_in, gd_3 139 (by decide +kernel) rfl, gd_3 140 (by decide +kernel) rfl, rfl⟩
theorem w0_X4_off : W0 yX4_off cX4_off 3 (some .boolean) 2 := ⟨gd_1 3 (by decide +kernel) rfl, gd_3 145 rfl rfl, by decide +kernel, by decide⟩
theorem cv_L_28 : WV RL 28 yX4_off cX4_off 3 (some .boolean) 2 4 := ⟨w0_X4_off, gd_3 142 (by decide +kernel) rfl, gd_3 143 (by decide +kernel) rfl, gd_3 144 (by decide +kernel) rfl, TX4, 20, rfl⟩
theorem w0_X4_isFlight : W0 yX4_isFlight cX4_isFlight 2 (some .boolean) 1 := ⟨gd_1 3 (by decide +kernel) rfl, gd_3 149 rfl rfl, by decide +kernel, by decide⟩
theorem cv_X4_66 : WV RX4 66 yX4_isFlight cX4_isFlight 2 (some .boolean) 1 4 := ⟨w0_X4_isFlight, gd_3 146 (by decide +kernel) rfl, gd_3 148 (by decide +kernel) rfl, gd_s 36 (by decide +kernel) rfl, TX4, 20, rfl⟩
theorem w0_X4_party : W0 yX4_party cX4_party 8 (some .int) 5 := ⟨gd_1 3 (by decide +kernel) rfl, gd_3 153 rfl rfl, by decide +kernel, by decide⟩
theorem cv_L_33 : WV RL 33 yX4_party cX4_party 8 (some .int) 5 4 := ⟨w0_X4_party, gd_3 150 (by decide +kernel) rfl, gd_3 151 (by decide +kernel) rfl, gd_3 152 (by decide +kernel) rfl, TX4, 20, rfl⟩
theorem w0_X4_set : W0 yX4_set cX4_set 4 (some .int) 2 := ⟨gd_1 3 (by decide +kernel) rfl, gd_3 157 rfl rfl, by decide +kernel, by decide⟩
theorem cv_L_37 : WV RL 37 yX4_set cX4_set 4 (some .int) 2 4 := ⟨w0_X4_set, gd_3 154 (by decide +kernel) rfl, gd_3 155 (by decide +kernel) rfl, gd_3 156 (by decide +kernel) rfl, TX4, 20, rfl⟩
theorem w0_X4_told : W0 yX4_told cX4_told 5 (some .int) 2 := ⟨gd_1 3 (by decide +kernel) rfl, gd_3 161 rfl rfl, by decide +kernel, by decide⟩
theorem cv_L_41 : WV RL 41 yX4_told cX4_told 5 (some .int) 2 4 := ⟨w0_X4_told, gd_3 158 (by decide +kernel) rfl, gd_3 159 (by decide +kernel) rfl, gd_3 160 (by decide +kernel) rfl, TX4, 20, rfl⟩
theorem w0_X4_load : W0 yX4_load cX4_load 4 (some .int) 1 := ⟨gd_1 3 (by decide +kernel) rfl, gd_3 165 rfl rfl, by decide +kernel, by decide⟩
theorem cv_X4_77 : WV RX4 77 yX4_load cX4_load 4 (some .int) 1 4 := ⟨w0_X4_load, gd_3 162 (by decide +kernel) rfl, gd_3 164 (by decide +kernel) rfl, gd_s 37 (by decide +kernel) rfl, TX4, 20, rfl⟩
theorem w0_X4_get : W0 yX4_get cX4_get 3 (some .int) 2 := ⟨gd_1 3 (by decide +kernel) rfl, gd_3 169 rfl rfl, by decide +kernel, by decide⟩
theorem cv_X4_70 : WV RX4 70 yX4_get cX4_get 3 (some .int) 2 4 := ⟨w0_X4_get, gd_3 166 (by decide +kernel) rfl, gd_3 168 (by decide +kernel) rfl, gd_s 38 (by decide +kernel) rfl, TX4, 20, rfl⟩
theorem w0_X4_over : W0 yX4_over cX4_over 2 (some .int) 1 := ⟨gd_1 3 (by decide +kernel) rfl, gd_3 173 rfl rfl, by decide +kernel, by decide⟩
theorem cv_X4_86 : WV RX4 86 yX4_over cX4_over 2 (some .int) 1 4 := ⟨w0_X4_over, gd_3 170 (by decide +kernel) rfl, gd_3 172 (by decide +kernel) rfl, gd_s 39 (by decide +kernel) rfl, TX4, 20, rfl⟩
theorem w0_X4_of7 : W0 yX4_of7 cX4_of7 3 (some .int) 2 := ⟨gd_1 3 (by decide +kernel) rfl, gd_3 177 rfl rfl, by decide +kernel, by decide⟩
theorem cv_X4_74 : WV RX4 74 yX4_of7 cX4_of7 3 (some .int) 2 4 := ⟨w0_X4_of7, gd_3 174 (by decide +kernel) rfl, gd_3 176 (by decide +kernel) rfl, gd_s 40 (by decide +kernel) rfl, TX4, 20, rfl⟩
theorem cm_X4_81 : Cond.methodLink RX4 81 Lib.Math.max.name ∈ gd ∧ Cond.static Lib.Math.max.name ∈ gd ∧ Cond.initialized "java/lang/Math" ∈ gd ∧ Cond.code Lib.Math.max.name Lib.Math.max.code 2 (some .int) ∈ gd := ⟨gd_3 178 (by decide +kernel) rfl, gd_1 230 (by decide +kernel) rfl, gd_1 6 (by decide +kernel) rfl, gd_1 231 rfl rfl⟩
theorem w0_X4_of : W0 yX4_of cX4_of 3 (some .int) 2 := ⟨gd_1 3 (by decide +kernel) rfl, gd_3 182 rfl rfl, by decide +kernel, by decide⟩
theorem cv_L_47 : WV RL 47 yX4_of cX4_of 3 (some .int) 2 4 := ⟨w0_X4_of, gd_3 179 (by decide +kernel) rfl, gd_3 180 (by decide +kernel) rfl, gd_3 181 (by decide +kernel) rfl, TX4, 20, rfl⟩
theorem w0_X4_isParty : W0 yX4_isParty cX4_isParty 2 (some .boolean) 1 := ⟨gd_1 3 (by decide +kernel) rfl, gd_3 186 rfl rfl, by decide +kernel, by decide⟩
theorem cv_X4_92 : WV RX4 92 yX4_isParty cX4_isParty 2 (some .boolean) 1 4 := ⟨w0_X4_isParty, gd_3 183 (by decide +kernel) rfl, gd_3 185 (by decide +kernel) rfl, gd_s 41 (by decide +kernel) rfl, TX4, 20, rfl⟩
theorem w0_X4_lateOf : W0 yX4_lateOf cX4_lateOf 3 (some .int) 1 := ⟨gd_1 3 (by decide +kernel) rfl, gd_3 190 rfl rfl, by decide +kernel, by decide⟩
theorem cv_X4_89 : WV RX4 89 yX4_lateOf cX4_lateOf 3 (some .int) 1 4 := ⟨w0_X4_lateOf, gd_3 187 (by decide +kernel) rfl, gd_3 189 (by decide +kernel) rfl, gd_s 42 (by decide +kernel) rfl, TX4, 20, rfl⟩
theorem w0_X4_claim : W0 yX4_claim cX4_claim 5 (some .int) 1 := ⟨gd_1 3 (by decide +kernel) rfl, gd_3 194 rfl rfl, by decide +kernel, by decide⟩
theorem cv_X4_95 : WV RX4 95 yX4_claim cX4_claim 5 (some .int) 1 4 := ⟨w0_X4_claim, gd_3 191 (by decide +kernel) rfl, gd_3 193 (by decide +kernel) rfl, gd_s 43 (by decide +kernel) rfl, TX4, 20, rfl⟩
theorem w0_X4_count : W0 yX4_count cX4_count 6 (some .int) 1 := ⟨gd_1 3 (by decide +kernel) rfl, gd_3 198 rfl rfl, by decide +kernel, by decide⟩
theorem cv_L_56 : WV RL 56 yX4_count cX4_count 6 (some .int) 1 4 := ⟨w0_X4_count, gd_3 195 (by decide +kernel) rfl, gd_3 196 (by decide +kernel) rfl, gd_3 197 (by decide +kernel) rfl, TX4, 20, rfl⟩
theorem w0_X4_cost : W0 yX4_cost cX4_cost 3 (some .int) 1 := ⟨gd_1 3 (by decide +kernel) rfl, gd_3 202 rfl rfl, by decide +kernel, by decide⟩
theorem cv_L_60 : WV RL 60 yX4_cost cX4_cost 3 (some .int) 1 4 := ⟨w0_X4_cost, gd_3 199 (by decide +kernel) rfl, gd_3 200 (by decide +kernel) rfl, gd_3 201 (by decide +kernel) rfl, TX4, 20, rfl⟩
theorem w0_X4_findBest : W0 yX4_findBest cX4_findBest 7 (some .int) 1 := ⟨gd_1 3 (by decide +kernel) rfl, gd_3 206 rfl rfl, by decide +kernel, by decide⟩
theorem cv_X4_103 : WV RX4 103 yX4_findBest cX4_findBest 7 (some .int) 1 4 := ⟨w0_X4_findBest, gd_3 203 (by decide +kernel) rfl, gd_3 205 (by decide +kernel) rfl, gd_s 44 (by decide +kernel) rfl, TX4, 20, rfl⟩
theorem w0_X4_mayGive : W0 yX4_mayGive cX4_mayGive 3 (some .boolean) 2 := ⟨gd_1 3 (by decide +kernel) rfl, gd_3 211 rfl rfl, by decide +kernel, by decide⟩
theorem cv_X4_99 : WV RX4 99 yX4_mayGive cX4_mayGive 3 (some .boolean) 2 4 := ⟨w0_X4_mayGive, gd_3 208 (by decide +kernel) rfl, gd_3 210 (by decide +kernel) rfl, gd_s 45 (by decide +kernel) rfl, TX4, 20, rfl⟩
theorem w0_X4_buy : W0 yX4_buy cX4_buy 4 (some .int) 1 := ⟨gd_1 3 (by decide +kernel) rfl, gd_3 215 rfl rfl, by decide +kernel, by decide⟩
theorem cv_L_64 : WV RL 64 yX4_buy cX4_buy 4 (some .int) 1 4 := ⟨w0_X4_buy, gd_3 212 (by decide +kernel) rfl, gd_3 213 (by decide +kernel) rfl, gd_3 214 (by decide +kernel) rfl, TX4, 20, rfl⟩
theorem w0_X4_give : W0 yX4_give cX4_give 3 none 2 := ⟨gd_1 3 (by decide +kernel) rfl, gd_3 219 rfl rfl, by decide +kernel, by decide⟩
theorem cv_X4_110 : WV RX4 110 yX4_give cX4_give 3 none 2 4 := ⟨w0_X4_give, gd_3 216 (by decide +kernel) rfl, gd_3 218 (by decide +kernel) rfl, gd_s 46 (by decide +kernel) rfl, TX4, 20, rfl⟩
theorem w0_X4_put : W0 yX4_put cX4_put 4 none 3 := ⟨gd_1 3 (by decide +kernel) rfl, gd_3 223 rfl rfl, by decide +kernel, by decide⟩
theorem cv_X4_106 : WV RX4 106 yX4_put cX4_put 4 none 3 4 := ⟨w0_X4_put, gd_3 220 (by decide +kernel) rfl, gd_3 222 (by decide +kernel) rfl, gd_s 47 (by decide +kernel) rfl, TX4, 20, rfl⟩
theorem w0_X4_rounds : W0 yX4_rounds cX4_rounds 8 (some .int) 3 := ⟨gd_1 3 (by decide +kernel) rfl, gd_3 227 rfl rfl, by decide +kernel, by decide⟩
theorem cv_L_69 : WV RL 69 yX4_rounds cX4_rounds 8 (some .int) 3 4 := ⟨w0_X4_rounds, gd_3 224 (by decide +kernel) rfl, gd_3 225 (by decide +kernel) rfl, gd_3 226 (by decide +kernel) rfl, TX4, 20, rfl⟩
theorem w0_X4_leave : W0 yX4_leave cX4_leave 6 (some .int) 1 := ⟨gd_1 3 (by decide +kernel) rfl, gd_3 231 rfl rfl, by decide +kernel, by decide⟩
theorem cv_L_73 : WV RL 73 yX4_leave cX4_leave 6 (some .int) 1 4 := ⟨w0_X4_leave, gd_3 228 (by decide +kernel) rfl, gd_3 229 (by decide +kernel) rfl, gd_3 230 (by decide +kernel) rfl, TX4, 20, rfl⟩
theorem w0_X4_back : W0 yX4_back cX4_back 5 (some .boolean) 1 := ⟨gd_1 3 (by decide +kernel) rfl, gd_3 235 rfl rfl, by decide +kernel, by decide⟩
theorem cv_L_78 : WV RL 78 yX4_back cX4_back 5 (some .boolean) 1 4 := ⟨w0_X4_back, gd_3 232 (by decide +kernel) rfl, gd_3 233 (by decide +kernel) rfl, gd_3 234 (by decide +kernel) rfl, TX4, 20, rfl⟩
theorem w0_X4_late : W0 yX4_late cX4_late 4 (some .int) 3 := ⟨gd_1 3 (by decide +kernel) rfl, gd_3 239 rfl rfl, by decide +kernel, by decide⟩
theorem cv_L_82 : WV RL 82 yX4_late cX4_late 4 (some .int) 3 4 := ⟨w0_X4_late, gd_3 236 (by decide +kernel) rfl, gd_3 237 (by decide +kernel) rfl, gd_3 238 (by decide +kernel) rfl, TX4, 20, rfl⟩
theorem w0_X4_lateBy : W0 yX4_lateBy cX4_lateBy 6 (some .int) 3 := ⟨gd_1 3 (by decide +kernel) rfl, gd_4 3 rfl rfl, by decide +kernel, by decide⟩
theorem cv_X4_114 : WV RX4 114 yX4_lateBy cX4_lateBy 6 (some .int) 3 4 := ⟨w0_X4_lateBy, gd_4 0 (by decide +kernel) rfl, gd_4 2 (by decide +kernel) rfl, gd_s 48 (by decide +kernel) rfl, TX4, 20, rfl⟩
theorem w0_X4_stranded : W0 yX4_stranded cX4_stranded 1 (some .int) 0 := ⟨gd_1 3 (by decide +kernel) rfl, gd_4 7 rfl rfl, by decide +kernel, by decide⟩
theorem cv_L_86 : WV RL 86 yX4_stranded cX4_stranded 1 (some .int) 0 4 := ⟨w0_X4_stranded, gd_4 4 (by decide +kernel) rfl, gd_4 5 (by decide +kernel) rfl, gd_4 6 (by decide +kernel) rfl, TX4, 20, rfl⟩
theorem w0_X4_strandedMany : W0 yX4_strandedMany cX4_strandedMany 3 (some .int) 0 := ⟨gd_1 3 (by decide +kernel) rfl, gd_4 11 rfl rfl, by decide +kernel, by decide⟩
theorem cv_X4_136 : WV RX4 136 yX4_strandedMany cX4_strandedMany 3 (some .int) 0 4 := ⟨w0_X4_strandedMany, gd_4 8 (by decide +kernel) rfl, gd_4 10 (by decide +kernel) rfl, gd_s 49 (by decide +kernel) rfl, TX4, 20, rfl⟩
theorem w0_X4_move : W0 yX4_move cX4_move 2 (some .int) 0 := ⟨gd_1 3 (by decide +kernel) rfl, gd_4 15 rfl rfl, by decide +kernel, by decide⟩
theorem cv_L_90 : WV RL 90 yX4_move cX4_move 2 (some .int) 0 4 := ⟨w0_X4_move, gd_4 12 (by decide +kernel) rfl, gd_4 13 (by decide +kernel) rfl, gd_4 14 (by decide +kernel) rfl, TX4, 20, rfl⟩
theorem w0_X4_findWays : W0 yX4_findWays cX4_findWays 6 none 1 := ⟨gd_1 3 (by decide +kernel) rfl, gd_4 19 rfl rfl, by decide +kernel, by decide⟩
theorem cv_X4_140 : WV RX4 140 yX4_findWays cX4_findWays 6 none 1 4 := ⟨w0_X4_findWays, gd_4 16 (by decide +kernel) rfl, gd_4 18 (by decide +kernel) rfl, gd_s 50 (by decide +kernel) rfl, TX4, 20, rfl⟩
theorem w0_J9_min_7cf53 : W0 yJ9_min_7cf53 cJ9_min_7cf53 2 (some .int) 2 := ⟨gd_1 6 (by decide +kernel) rfl, gd_4 22 rfl rfl, by decide +kernel, by decide⟩
theorem cm_X4_118 : Cond.methodLink RX4 118 Lib.Math.min.name ∈ gd ∧ Cond.static Lib.Math.min.name ∈ gd ∧ Cond.initialized "java/lang/Math" ∈ gd ∧ Cond.code Lib.Math.min.name Lib.Math.min.code 2 (some .int) ∈ gd := ⟨gd_4 20 (by decide +kernel) rfl, gd_4 21 (by decide +kernel) rfl, gd_1 6 (by decide +kernel) rfl, gd_4 22 rfl rfl⟩
theorem w0_X4_goOn : W0 yX4_goOn cX4_goOn 10 none 3 := ⟨gd_1 3 (by decide +kernel) rfl, gd_4 26 rfl rfl, by decide +kernel, by decide⟩
theorem cv_X4_133 : WV RX4 133 yX4_goOn cX4_goOn 10 none 3 4 := ⟨w0_X4_goOn, gd_4 23 (by decide +kernel) rfl, gd_4 25 (by decide +kernel) rfl, gd_s 51 (by decide +kernel) rfl, TX4, 20, rfl⟩
theorem w0_X4_hasRoom : W0 yX4_hasRoom cX4_hasRoom 3 (some .boolean) 2 := ⟨gd_1 3 (by decide +kernel) rfl, gd_4 30 rfl rfl, by decide +kernel, by decide⟩
theorem cv_X4_130 : WV RX4 130 yX4_hasRoom cX4_hasRoom 3 (some .boolean) 2 4 := ⟨w0_X4_hasRoom, gd_4 27 (by decide +kernel) rfl, gd_4 29 (by decide +kernel) rfl, gd_s 52 (by decide +kernel) rfl, TX4, 20, rfl⟩
theorem w0_X4_undo : W0 yX4_undo cX4_undo 3 (some .int) 0 := ⟨gd_1 3 (by decide +kernel) rfl, gd_4 34 rfl rfl, by decide +kernel, by decide⟩
theorem cv_L_94 : WV RL 94 yX4_undo cX4_undo 3 (some .int) 0 4 := ⟨w0_X4_undo, gd_4 31 (by decide +kernel) rfl, gd_4 32 (by decide +kernel) rfl, gd_4 33 (by decide +kernel) rfl, TX4, 20, rfl⟩
theorem k_X3_236 : Cond.constantLong RX3 236 (-1) ∈ gd := gd_2 41 (by decide +kernel) rfl
theorem k_X1_91 : Cond.constant RX1 91 (360000) ∈ gd := gd_2 168 (by decide +kernel) rfl
theorem k_X4_98 : Cond.constant RX4 98 (268435456) ∈ gd := gd_3 207 (by decide +kernel) rfl
end
