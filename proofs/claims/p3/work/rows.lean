section
-- ===== PART A: goes FIRST, ahead of the names: the tables' words, and 'selects' of the private methods out of them =====
/-- a private method of a class that the tables say can be made, by its rows of tables_1 -/
def lw_okq (q : MethodName × Nat) : Prop := (q.1.cls ≠ "java/lang/invoke/MethodHandle" ∧ q.1.cls ≠ "java/lang/invoke/VarHandle") ∧ Cond.instantiable q.1.cls q.2 ∈ tables_1 ∧ Cond.privateMethod q.1 ∈ tables_1 ∧ Cond.instanceMethod q.1 ∈ tables_1
theorem lw_p0 : lw_okq (⟨"WireMessages$Reader", "takeMessage", "()I"⟩, 8) := ⟨⟨by decide +kernel, by decide +kernel⟩, List.mem_of_getElem? (i := 115) (by decide +kernel), List.mem_of_getElem? (i := 249) (by decide +kernel), List.mem_of_getElem? (i := 250) (by decide +kernel)⟩
theorem lw_p1 : lw_okq (⟨"WireMessages$Bytes", "twoAt", "(I)I"⟩, 2) := ⟨⟨by decide +kernel, by decide +kernel⟩, List.mem_of_getElem? (i := 29) (by decide +kernel), List.mem_of_getElem? (i := 253) (by decide +kernel), List.mem_of_getElem? (i := 254) (by decide +kernel)⟩
theorem lw_p2 : lw_okq (⟨"WireMessages$Bytes", "at", "(I)I"⟩, 2) := ⟨⟨by decide +kernel, by decide +kernel⟩, List.mem_of_getElem? (i := 29) (by decide +kernel), List.mem_of_getElem? (i := 257) (by decide +kernel), List.mem_of_getElem? (i := 258) (by decide +kernel)⟩
theorem lw_p3 : lw_okq (⟨"WireMessages$Gathered", "startAnew", "(II)V"⟩, 11) := ⟨⟨by decide +kernel, by decide +kernel⟩, List.mem_of_getElem? (i := 48) (by decide +kernel), List.mem_of_getElem? (i := 261) (by decide +kernel), List.mem_of_getElem? (i := 262) (by decide +kernel)⟩
theorem lw_p4 : lw_okq (⟨"WireMessages$Reader", "fail", "(II)Z"⟩, 8) := ⟨⟨by decide +kernel, by decide +kernel⟩, List.mem_of_getElem? (i := 115) (by decide +kernel), List.mem_of_getElem? (i := 265) (by decide +kernel), List.mem_of_getElem? (i := 266) (by decide +kernel)⟩
theorem lw_p5 : lw_okq (⟨"WireMessages$Reader", "takeQuestion", "()Z"⟩, 8) := ⟨⟨by decide +kernel, by decide +kernel⟩, List.mem_of_getElem? (i := 115) (by decide +kernel), List.mem_of_getElem? (i := 269) (by decide +kernel), List.mem_of_getElem? (i := 270) (by decide +kernel)⟩
theorem lw_p6 : lw_okq (⟨"WireMessages$Reader", "takeOwner", "(I)Z"⟩, 8) := ⟨⟨by decide +kernel, by decide +kernel⟩, List.mem_of_getElem? (i := 115) (by decide +kernel), List.mem_of_getElem? (i := 273) (by decide +kernel), List.mem_of_getElem? (i := 274) (by decide +kernel)⟩
theorem lw_p7 : lw_okq (⟨"WireMessages$Reader", "takeName", "(II)Z"⟩, 8) := ⟨⟨by decide +kernel, by decide +kernel⟩, List.mem_of_getElem? (i := 115) (by decide +kernel), List.mem_of_getElem? (i := 277) (by decide +kernel), List.mem_of_getElem? (i := 278) (by decide +kernel)⟩
theorem lw_p8 : lw_okq (⟨"WireMessages$Bytes", "put", "(I)V"⟩, 2) := ⟨⟨by decide +kernel, by decide +kernel⟩, List.mem_of_getElem? (i := 29) (by decide +kernel), List.mem_of_getElem? (i := 282) (by decide +kernel), List.mem_of_getElem? (i := 283) (by decide +kernel)⟩
theorem lw_p9 : lw_okq (⟨"WireMessages$Bytes", "set", "(II)V"⟩, 2) := ⟨⟨by decide +kernel, by decide +kernel⟩, List.mem_of_getElem? (i := 29) (by decide +kernel), List.mem_of_getElem? (i := 286) (by decide +kernel), List.mem_of_getElem? (i := 287) (by decide +kernel)⟩
theorem lw_p10 : lw_okq (⟨"WireMessages$Reader", "isGoodPointer", "(IIII)Z"⟩, 8) := ⟨⟨by decide +kernel, by decide +kernel⟩, List.mem_of_getElem? (i := 115) (by decide +kernel), List.mem_of_getElem? (i := 290) (by decide +kernel), List.mem_of_getElem? (i := 291) (by decide +kernel)⟩
theorem lw_p11 : lw_okq (⟨"WireMessages$Reader", "isGoodLabel", "(IIIII)Z"⟩, 8) := ⟨⟨by decide +kernel, by decide +kernel⟩, List.mem_of_getElem? (i := 115) (by decide +kernel), List.mem_of_getElem? (i := 294) (by decide +kernel), List.mem_of_getElem? (i := 295) (by decide +kernel)⟩
theorem lw_p12 : lw_okq (⟨"WireMessages$Bytes", "putFrom", "(LWireMessages$Bytes;II)V"⟩, 2) := ⟨⟨by decide +kernel, by decide +kernel⟩, List.mem_of_getElem? (i := 29) (by decide +kernel), List.mem_of_getElem? (i := 298) (by decide +kernel), List.mem_of_getElem? (i := 299) (by decide +kernel)⟩
theorem lw_p13 : lw_okq (⟨"WireMessages$Gathered", "keep", "(IIIIII)Z"⟩, 11) := ⟨⟨by decide +kernel, by decide +kernel⟩, List.mem_of_getElem? (i := 48) (by decide +kernel), List.mem_of_getElem? (i := 308) (by decide +kernel), List.mem_of_getElem? (i := 309) (by decide +kernel)⟩
theorem lw_p14 : lw_okq (⟨"WireMessages$Gathered", "hasPlaceIn", "(I)Z"⟩, 11) := ⟨⟨by decide +kernel, by decide +kernel⟩, List.mem_of_getElem? (i := 48) (by decide +kernel), List.mem_of_getElem? (i := 313) (by decide +kernel), List.mem_of_getElem? (i := 314) (by decide +kernel)⟩
theorem lw_p15 : lw_okq (⟨"WireMessages$Gathered", "records", "()I"⟩, 11) := ⟨⟨by decide +kernel, by decide +kernel⟩, List.mem_of_getElem? (i := 48) (by decide +kernel), List.mem_of_getElem? (i := 317) (by decide +kernel), List.mem_of_getElem? (i := 318) (by decide +kernel)⟩
def lw_privs_1 : List (MethodName × Nat) := [(⟨"WireMessages$Reader", "takeMessage", "()I"⟩, 8), (⟨"WireMessages$Bytes", "twoAt", "(I)I"⟩, 2), (⟨"WireMessages$Bytes", "at", "(I)I"⟩, 2), (⟨"WireMessages$Gathered", "startAnew", "(II)V"⟩, 11), (⟨"WireMessages$Reader", "fail", "(II)Z"⟩, 8), (⟨"WireMessages$Reader", "takeQuestion", "()Z"⟩, 8), (⟨"WireMessages$Reader", "takeOwner", "(I)Z"⟩, 8), (⟨"WireMessages$Reader", "takeName", "(II)Z"⟩, 8), (⟨"WireMessages$Bytes", "put", "(I)V"⟩, 2), (⟨"WireMessages$Bytes", "set", "(II)V"⟩, 2), (⟨"WireMessages$Reader", "isGoodPointer", "(IIII)Z"⟩, 8), (⟨"WireMessages$Reader", "isGoodLabel", "(IIIII)Z"⟩, 8), (⟨"WireMessages$Bytes", "putFrom", "(LWireMessages$Bytes;II)V"⟩, 2), (⟨"WireMessages$Gathered", "keep", "(IIIIII)Z"⟩, 11), (⟨"WireMessages$Gathered", "hasPlaceIn", "(I)Z"⟩, 11), (⟨"WireMessages$Gathered", "records", "()I"⟩, 11)]
theorem lw_r1 : ∀ q ∈ lw_privs_1, lw_okq q := List.forall_mem_cons.mpr ⟨lw_p0, List.forall_mem_cons.mpr ⟨lw_p1, List.forall_mem_cons.mpr ⟨lw_p2, List.forall_mem_cons.mpr ⟨lw_p3, List.forall_mem_cons.mpr ⟨lw_p4, List.forall_mem_cons.mpr ⟨lw_p5, List.forall_mem_cons.mpr ⟨lw_p6, List.forall_mem_cons.mpr ⟨lw_p7, List.forall_mem_cons.mpr ⟨lw_p8, List.forall_mem_cons.mpr ⟨lw_p9, List.forall_mem_cons.mpr ⟨lw_p10, List.forall_mem_cons.mpr ⟨lw_p11, List.forall_mem_cons.mpr ⟨lw_p12, List.forall_mem_cons.mpr ⟨lw_p13, List.forall_mem_cons.mpr ⟨lw_p14, List.forall_mem_cons.mpr ⟨lw_p15, fun _ h => absurd h List.not_mem_nil⟩⟩⟩⟩⟩⟩⟩⟩⟩⟩⟩⟩⟩⟩⟩⟩
theorem lw_p16 : lw_okq (⟨"WireMessages$Reader", "takeRecord", "(I)Z"⟩, 8) := ⟨⟨by decide +kernel, by decide +kernel⟩, List.mem_of_getElem? (i := 115) (by decide +kernel), List.mem_of_getElem? (i := 321) (by decide +kernel), List.mem_of_getElem? (i := 322) (by decide +kernel)⟩
theorem lw_p17 : lw_okq (⟨"WireMessages$Reader", "takeData", "(III)Z"⟩, 8) := ⟨⟨by decide +kernel, by decide +kernel⟩, List.mem_of_getElem? (i := 115) (by decide +kernel), List.mem_of_getElem? (i := 325) (by decide +kernel), List.mem_of_getElem? (i := 326) (by decide +kernel)⟩
theorem lw_p18 : lw_okq (⟨"WireMessages$Reader", "takeDataWithNames", "(III)Z"⟩, 8) := ⟨⟨by decide +kernel, by decide +kernel⟩, List.mem_of_getElem? (i := 115) (by decide +kernel), List.mem_of_getElem? (i := 332) (by decide +kernel), List.mem_of_getElem? (i := 333) (by decide +kernel)⟩
theorem lw_p19 : lw_okq (⟨"WireMessages$Reader", "isAsItsType", "(III)Z"⟩, 8) := ⟨⟨by decide +kernel, by decide +kernel⟩, List.mem_of_getElem? (i := 115) (by decide +kernel), List.mem_of_getElem? (i := 346) (by decide +kernel), List.mem_of_getElem? (i := 347) (by decide +kernel)⟩
theorem lw_p20 : lw_okq (⟨"WireMessages$Reader", "areStrings", "(II)Z"⟩, 8) := ⟨⟨by decide +kernel, by decide +kernel⟩, List.mem_of_getElem? (i := 115) (by decide +kernel), List.mem_of_getElem? (i := 350) (by decide +kernel), List.mem_of_getElem? (i := 351) (by decide +kernel)⟩
theorem lw_p21 : lw_okq (⟨"WireMessages$Bytes", "fourAt", "(I)I"⟩, 2) := ⟨⟨by decide +kernel, by decide +kernel⟩, List.mem_of_getElem? (i := 29) (by decide +kernel), List.mem_of_getElem? (i := 357) (by decide +kernel), List.mem_of_getElem? (i := 358) (by decide +kernel)⟩
theorem lw_p22 : lw_okq (⟨"java/lang/Throwable", "fillInStackTrace", "(I)Ljava/lang/Throwable;"⟩, 6) := ⟨⟨by decide +kernel, by decide +kernel⟩, List.mem_of_getElem? (i := 425) (by decide +kernel), List.mem_of_getElem? (i := 423) (by decide +kernel), List.mem_of_getElem? (i := 424) (by decide +kernel)⟩
theorem lw_p23 : lw_okq (⟨"WireMessages$Bytes", "putFour", "(I)V"⟩, 2) := ⟨⟨by decide +kernel, by decide +kernel⟩, List.mem_of_getElem? (i := 29) (by decide +kernel), List.mem_of_getElem? (i := 450) (by decide +kernel), List.mem_of_getElem? (i := 451) (by decide +kernel)⟩
theorem lw_p24 : lw_okq (⟨"WireMessages$Bytes", "putTwo", "(I)V"⟩, 2) := ⟨⟨by decide +kernel, by decide +kernel⟩, List.mem_of_getElem? (i := 29) (by decide +kernel), List.mem_of_getElem? (i := 454) (by decide +kernel), List.mem_of_getElem? (i := 455) (by decide +kernel)⟩
theorem lw_p25 : lw_okq (⟨"WireMessages$Reader", "takeTapeAsName", "()Z"⟩, 8) := ⟨⟨by decide +kernel, by decide +kernel⟩, List.mem_of_getElem? (i := 115) (by decide +kernel), List.mem_of_getElem? (i := 489) (by decide +kernel), List.mem_of_getElem? (i := 490) (by decide +kernel)⟩
theorem lw_p26 : lw_okq (⟨"WireMessages$Reader", "takeBackTo", "(I)Z"⟩, 8) := ⟨⟨by decide +kernel, by decide +kernel⟩, List.mem_of_getElem? (i := 115) (by decide +kernel), List.mem_of_getElem? (i := 493) (by decide +kernel), List.mem_of_getElem? (i := 494) (by decide +kernel)⟩
theorem lw_p27 : lw_okq (⟨"WireMessages$Reader", "takeTapeAsNameAndData", "(I)Z"⟩, 8) := ⟨⟨by decide +kernel, by decide +kernel⟩, List.mem_of_getElem? (i := 115) (by decide +kernel), List.mem_of_getElem? (i := 521) (by decide +kernel), List.mem_of_getElem? (i := 522) (by decide +kernel)⟩
theorem lw_p28 : lw_okq (⟨"WireMessages$Gathered", "bytesNeverLeftOut", "()I"⟩, 11) := ⟨⟨by decide +kernel, by decide +kernel⟩, List.mem_of_getElem? (i := 48) (by decide +kernel), List.mem_of_getElem? (i := 533) (by decide +kernel), List.mem_of_getElem? (i := 534) (by decide +kernel)⟩
theorem lw_p29 : lw_okq (⟨"WireMessages$Gathered", "isNeverLeftOut", "(II)Z"⟩, 11) := ⟨⟨by decide +kernel, by decide +kernel⟩, List.mem_of_getElem? (i := 48) (by decide +kernel), List.mem_of_getElem? (i := 537) (by decide +kernel), List.mem_of_getElem? (i := 538) (by decide +kernel)⟩
theorem lw_p30 : lw_okq (⟨"WireMessages$Gathered", "lengthUnderRoot", "(I)I"⟩, 11) := ⟨⟨by decide +kernel, by decide +kernel⟩, List.mem_of_getElem? (i := 48) (by decide +kernel), List.mem_of_getElem? (i := 541) (by decide +kernel), List.mem_of_getElem? (i := 542) (by decide +kernel)⟩
theorem lw_p31 : lw_okq (⟨"WireMessages$Writer", "compose", "(I)V"⟩, 6) := ⟨⟨by decide +kernel, by decide +kernel⟩, List.mem_of_getElem? (i := 149) (by decide +kernel), List.mem_of_getElem? (i := 560) (by decide +kernel), List.mem_of_getElem? (i := 561) (by decide +kernel)⟩
def lw_privs_2 : List (MethodName × Nat) := [(⟨"WireMessages$Reader", "takeRecord", "(I)Z"⟩, 8), (⟨"WireMessages$Reader", "takeData", "(III)Z"⟩, 8), (⟨"WireMessages$Reader", "takeDataWithNames", "(III)Z"⟩, 8), (⟨"WireMessages$Reader", "isAsItsType", "(III)Z"⟩, 8), (⟨"WireMessages$Reader", "areStrings", "(II)Z"⟩, 8), (⟨"WireMessages$Bytes", "fourAt", "(I)I"⟩, 2), (⟨"java/lang/Throwable", "fillInStackTrace", "(I)Ljava/lang/Throwable;"⟩, 6), (⟨"WireMessages$Bytes", "putFour", "(I)V"⟩, 2), (⟨"WireMessages$Bytes", "putTwo", "(I)V"⟩, 2), (⟨"WireMessages$Reader", "takeTapeAsName", "()Z"⟩, 8), (⟨"WireMessages$Reader", "takeBackTo", "(I)Z"⟩, 8), (⟨"WireMessages$Reader", "takeTapeAsNameAndData", "(I)Z"⟩, 8), (⟨"WireMessages$Gathered", "bytesNeverLeftOut", "()I"⟩, 11), (⟨"WireMessages$Gathered", "isNeverLeftOut", "(II)Z"⟩, 11), (⟨"WireMessages$Gathered", "lengthUnderRoot", "(I)I"⟩, 11), (⟨"WireMessages$Writer", "compose", "(I)V"⟩, 6)]
theorem lw_r2 : ∀ q ∈ lw_privs_2, lw_okq q := List.forall_mem_cons.mpr ⟨lw_p16, List.forall_mem_cons.mpr ⟨lw_p17, List.forall_mem_cons.mpr ⟨lw_p18, List.forall_mem_cons.mpr ⟨lw_p19, List.forall_mem_cons.mpr ⟨lw_p20, List.forall_mem_cons.mpr ⟨lw_p21, List.forall_mem_cons.mpr ⟨lw_p22, List.forall_mem_cons.mpr ⟨lw_p23, List.forall_mem_cons.mpr ⟨lw_p24, List.forall_mem_cons.mpr ⟨lw_p25, List.forall_mem_cons.mpr ⟨lw_p26, List.forall_mem_cons.mpr ⟨lw_p27, List.forall_mem_cons.mpr ⟨lw_p28, List.forall_mem_cons.mpr ⟨lw_p29, List.forall_mem_cons.mpr ⟨lw_p30, List.forall_mem_cons.mpr ⟨lw_p31, fun _ h => absurd h List.not_mem_nil⟩⟩⟩⟩⟩⟩⟩⟩⟩⟩⟩⟩⟩⟩⟩⟩
theorem lw_p32 : lw_okq (⟨"WireMessages$Ends", "shrinkTo", "(I)V"⟩, 7) := ⟨⟨by decide +kernel, by decide +kernel⟩, List.mem_of_getElem? (i := 157) (by decide +kernel), List.mem_of_getElem? (i := 565) (by decide +kernel), List.mem_of_getElem? (i := 566) (by decide +kernel)⟩
theorem lw_p33 : lw_okq (⟨"WireMessages$Writer", "putIfFits", "(III)Z"⟩, 6) := ⟨⟨by decide +kernel, by decide +kernel⟩, List.mem_of_getElem? (i := 149) (by decide +kernel), List.mem_of_getElem? (i := 575) (by decide +kernel), List.mem_of_getElem? (i := 576) (by decide +kernel)⟩
theorem lw_p34 : lw_okq (⟨"WireMessages$Writer", "putSharedName", "(I)I"⟩, 6) := ⟨⟨by decide +kernel, by decide +kernel⟩, List.mem_of_getElem? (i := 149) (by decide +kernel), List.mem_of_getElem? (i := 579) (by decide +kernel), List.mem_of_getElem? (i := 580) (by decide +kernel)⟩
theorem lw_p35 : lw_okq (⟨"WireMessages$Writer", "markEnds", "(II)V"⟩, 6) := ⟨⟨by decide +kernel, by decide +kernel⟩, List.mem_of_getElem? (i := 149) (by decide +kernel), List.mem_of_getElem? (i := 588) (by decide +kernel), List.mem_of_getElem? (i := 589) (by decide +kernel)⟩
theorem lw_p36 : lw_okq (⟨"WireMessages$Ends", "placeOf", "(III)I"⟩, 7) := ⟨⟨by decide +kernel, by decide +kernel⟩, List.mem_of_getElem? (i := 157) (by decide +kernel), List.mem_of_getElem? (i := 592) (by decide +kernel), List.mem_of_getElem? (i := 593) (by decide +kernel)⟩
theorem lw_p37 : lw_okq (⟨"WireMessages$Ends", "equalBytes", "(III)Z"⟩, 7) := ⟨⟨by decide +kernel, by decide +kernel⟩, List.mem_of_getElem? (i := 157) (by decide +kernel), List.mem_of_getElem? (i := 596) (by decide +kernel), List.mem_of_getElem? (i := 597) (by decide +kernel)⟩
theorem lw_p38 : lw_okq (⟨"WireMessages$Ends", "add", "(III)V"⟩, 7) := ⟨⟨by decide +kernel, by decide +kernel⟩, List.mem_of_getElem? (i := 157) (by decide +kernel), List.mem_of_getElem? (i := 601) (by decide +kernel), List.mem_of_getElem? (i := 602) (by decide +kernel)⟩
theorem lw_p39 : lw_okq (⟨"WireMessages$Writer", "putData", "(I)V"⟩, 6) := ⟨⟨by decide +kernel, by decide +kernel⟩, List.mem_of_getElem? (i := 149) (by decide +kernel), List.mem_of_getElem? (i := 610) (by decide +kernel), List.mem_of_getElem? (i := 611) (by decide +kernel)⟩
theorem lw_p40 : lw_okq (⟨"WireMessages$Bytes", "setTwo", "(II)V"⟩, 2) := ⟨⟨by decide +kernel, by decide +kernel⟩, List.mem_of_getElem? (i := 29) (by decide +kernel), List.mem_of_getElem? (i := 617) (by decide +kernel), List.mem_of_getElem? (i := 618) (by decide +kernel)⟩
theorem lw_p41 : lw_okq (⟨"WireMessages", "rowThatIs", "(II)I"⟩, 7) := ⟨⟨by decide +kernel, by decide +kernel⟩, List.mem_of_getElem? (i := 21) (by decide +kernel), List.mem_of_getElem? (i := 668) (by decide +kernel), List.mem_of_getElem? (i := 669) (by decide +kernel)⟩
theorem lw_p42 : lw_okq (⟨"WireMessages$Gathered", "rowOf", "(II)I"⟩, 11) := ⟨⟨by decide +kernel, by decide +kernel⟩, List.mem_of_getElem? (i := 48) (by decide +kernel), List.mem_of_getElem? (i := 672) (by decide +kernel), List.mem_of_getElem? (i := 673) (by decide +kernel)⟩
theorem lw_p43 : lw_okq (⟨"WireMessages$Names", "compare", "(II)I"⟩, 3) := ⟨⟨by decide +kernel, by decide +kernel⟩, List.mem_of_getElem? (i := 207) (by decide +kernel), List.mem_of_getElem? (i := 690) (by decide +kernel), List.mem_of_getElem? (i := 691) (by decide +kernel)⟩
theorem lw_p44 : lw_okq (⟨"WireMessages$Names", "compareLabels", "(II)I"⟩, 3) := ⟨⟨by decide +kernel, by decide +kernel⟩, List.mem_of_getElem? (i := 207) (by decide +kernel), List.mem_of_getElem? (i := 696) (by decide +kernel), List.mem_of_getElem? (i := 697) (by decide +kernel)⟩
theorem lw_p45 : lw_okq (⟨"WireMessagesModel", "none", "()V"⟩, 30) := ⟨⟨by decide +kernel, by decide +kernel⟩, List.mem_of_getElem? (i := 713) (by decide +kernel), List.mem_of_getElem? (i := 822) (by decide +kernel), List.mem_of_getElem? (i := 823) (by decide +kernel)⟩
theorem lw_p46 : lw_okq (⟨"WireMessagesModel", "wrong", "(II)V"⟩, 30) := ⟨⟨by decide +kernel, by decide +kernel⟩, List.mem_of_getElem? (i := 713) (by decide +kernel), List.mem_of_getElem? (i := 826) (by decide +kernel), List.mem_of_getElem? (i := 827) (by decide +kernel)⟩
theorem lw_p47 : lw_okq (⟨"WireMessagesModel", "two", "(I)I"⟩, 30) := ⟨⟨by decide +kernel, by decide +kernel⟩, List.mem_of_getElem? (i := 713) (by decide +kernel), List.mem_of_getElem? (i := 830) (by decide +kernel), List.mem_of_getElem? (i := 831) (by decide +kernel)⟩
def lw_privs_3 : List (MethodName × Nat) := [(⟨"WireMessages$Ends", "shrinkTo", "(I)V"⟩, 7), (⟨"WireMessages$Writer", "putIfFits", "(III)Z"⟩, 6), (⟨"WireMessages$Writer", "putSharedName", "(I)I"⟩, 6), (⟨"WireMessages$Writer", "markEnds", "(II)V"⟩, 6), (⟨"WireMessages$Ends", "placeOf", "(III)I"⟩, 7), (⟨"WireMessages$Ends", "equalBytes", "(III)Z"⟩, 7), (⟨"WireMessages$Ends", "add", "(III)V"⟩, 7), (⟨"WireMessages$Writer", "putData", "(I)V"⟩, 6), (⟨"WireMessages$Bytes", "setTwo", "(II)V"⟩, 2), (⟨"WireMessages", "rowThatIs", "(II)I"⟩, 7), (⟨"WireMessages$Gathered", "rowOf", "(II)I"⟩, 11), (⟨"WireMessages$Names", "compare", "(II)I"⟩, 3), (⟨"WireMessages$Names", "compareLabels", "(II)I"⟩, 3), (⟨"WireMessagesModel", "none", "()V"⟩, 30), (⟨"WireMessagesModel", "wrong", "(II)V"⟩, 30), (⟨"WireMessagesModel", "two", "(I)I"⟩, 30)]
theorem lw_r3 : ∀ q ∈ lw_privs_3, lw_okq q := List.forall_mem_cons.mpr ⟨lw_p32, List.forall_mem_cons.mpr ⟨lw_p33, List.forall_mem_cons.mpr ⟨lw_p34, List.forall_mem_cons.mpr ⟨lw_p35, List.forall_mem_cons.mpr ⟨lw_p36, List.forall_mem_cons.mpr ⟨lw_p37, List.forall_mem_cons.mpr ⟨lw_p38, List.forall_mem_cons.mpr ⟨lw_p39, List.forall_mem_cons.mpr ⟨lw_p40, List.forall_mem_cons.mpr ⟨lw_p41, List.forall_mem_cons.mpr ⟨lw_p42, List.forall_mem_cons.mpr ⟨lw_p43, List.forall_mem_cons.mpr ⟨lw_p44, List.forall_mem_cons.mpr ⟨lw_p45, List.forall_mem_cons.mpr ⟨lw_p46, List.forall_mem_cons.mpr ⟨lw_p47, fun _ h => absurd h List.not_mem_nil⟩⟩⟩⟩⟩⟩⟩⟩⟩⟩⟩⟩⟩⟩⟩⟩
theorem lw_p48 : lw_okq (⟨"WireMessagesModel", "here", "(I)I"⟩, 30) := ⟨⟨by decide +kernel, by decide +kernel⟩, List.mem_of_getElem? (i := 713) (by decide +kernel), List.mem_of_getElem? (i := 834) (by decide +kernel), List.mem_of_getElem? (i := 835) (by decide +kernel)⟩
theorem lw_p49 : lw_okq (⟨"WireMessagesModel", "entry", "(I)V"⟩, 30) := ⟨⟨by decide +kernel, by decide +kernel⟩, List.mem_of_getElem? (i := 713) (by decide +kernel), List.mem_of_getElem? (i := 838) (by decide +kernel), List.mem_of_getElem? (i := 839) (by decide +kernel)⟩
theorem lw_p50 : lw_okq (⟨"WireMessagesModel", "name", "(ZZ)V"⟩, 30) := ⟨⟨by decide +kernel, by decide +kernel⟩, List.mem_of_getElem? (i := 713) (by decide +kernel), List.mem_of_getElem? (i := 842) (by decide +kernel), List.mem_of_getElem? (i := 843) (by decide +kernel)⟩
theorem lw_p51 : lw_okq (⟨"WireMessagesModel", "there", "(IIZZ)Z"⟩, 30) := ⟨⟨by decide +kernel, by decide +kernel⟩, List.mem_of_getElem? (i := 713) (by decide +kernel), List.mem_of_getElem? (i := 846) (by decide +kernel), List.mem_of_getElem? (i := 847) (by decide +kernel)⟩
theorem lw_p52 : lw_okq (⟨"WireMessagesModel", "data", "(IZ)V"⟩, 30) := ⟨⟨by decide +kernel, by decide +kernel⟩, List.mem_of_getElem? (i := 713) (by decide +kernel), List.mem_of_getElem? (i := 850) (by decide +kernel), List.mem_of_getElem? (i := 851) (by decide +kernel)⟩
theorem lw_p53 : lw_okq (⟨"WireMessagesModel", "bytes", "(I)V"⟩, 30) := ⟨⟨by decide +kernel, by decide +kernel⟩, List.mem_of_getElem? (i := 713) (by decide +kernel), List.mem_of_getElem? (i := 854) (by decide +kernel), List.mem_of_getElem? (i := 855) (by decide +kernel)⟩
theorem lw_p54 : lw_okq (⟨"WireMessagesModel", "countOf", "(I)I"⟩, 30) := ⟨⟨by decide +kernel, by decide +kernel⟩, List.mem_of_getElem? (i := 713) (by decide +kernel), List.mem_of_getElem? (i := 858) (by decide +kernel), List.mem_of_getElem? (i := 859) (by decide +kernel)⟩
theorem lw_p55 : lw_okq (⟨"WireMessagesModel", "records", "()I"⟩, 30) := ⟨⟨by decide +kernel, by decide +kernel⟩, List.mem_of_getElem? (i := 713) (by decide +kernel), List.mem_of_getElem? (i := 862) (by decide +kernel), List.mem_of_getElem? (i := 863) (by decide +kernel)⟩
theorem lw_p56 : lw_okq (⟨"WireMessagesModel", "fail", "(I)I"⟩, 30) := ⟨⟨by decide +kernel, by decide +kernel⟩, List.mem_of_getElem? (i := 713) (by decide +kernel), List.mem_of_getElem? (i := 875) (by decide +kernel), List.mem_of_getElem? (i := 876) (by decide +kernel)⟩
theorem lw_p57 : lw_okq (⟨"WireMessagesModel", "wholeName", "(I)I"⟩, 30) := ⟨⟨by decide +kernel, by decide +kernel⟩, List.mem_of_getElem? (i := 713) (by decide +kernel), List.mem_of_getElem? (i := 892) (by decide +kernel), List.mem_of_getElem? (i := 893) (by decide +kernel)⟩
theorem lw_p58 : lw_okq (⟨"WireMessagesModel", "gathered", "(IIIII)I"⟩, 30) := ⟨⟨by decide +kernel, by decide +kernel⟩, List.mem_of_getElem? (i := 713) (by decide +kernel), List.mem_of_getElem? (i := 896) (by decide +kernel), List.mem_of_getElem? (i := 897) (by decide +kernel)⟩
theorem lw_p59 : lw_okq (⟨"WireMessagesModel", "fits", "(IIZ)Z"⟩, 30) := ⟨⟨by decide +kernel, by decide +kernel⟩, List.mem_of_getElem? (i := 713) (by decide +kernel), List.mem_of_getElem? (i := 904) (by decide +kernel), List.mem_of_getElem? (i := 905) (by decide +kernel)⟩
theorem lw_p60 : lw_okq (⟨"WireMessagesModel", "must", "(I)Z"⟩, 30) := ⟨⟨by decide +kernel, by decide +kernel⟩, List.mem_of_getElem? (i := 713) (by decide +kernel), List.mem_of_getElem? (i := 912) (by decide +kernel), List.mem_of_getElem? (i := 913) (by decide +kernel)⟩
theorem lw_p61 : lw_okq (⟨"WireMessagesModel", "putEntry", "(I)V"⟩, 30) := ⟨⟨by decide +kernel, by decide +kernel⟩, List.mem_of_getElem? (i := 713) (by decide +kernel), List.mem_of_getElem? (i := 916) (by decide +kernel), List.mem_of_getElem? (i := 917) (by decide +kernel)⟩
theorem lw_p62 : lw_okq (⟨"WireMessagesModel", "putName", "(IZ)I"⟩, 30) := ⟨⟨by decide +kernel, by decide +kernel⟩, List.mem_of_getElem? (i := 713) (by decide +kernel), List.mem_of_getElem? (i := 920) (by decide +kernel), List.mem_of_getElem? (i := 921) (by decide +kernel)⟩
theorem lw_p63 : lw_okq (⟨"WireMessagesModel", "standing", "(I)I"⟩, 30) := ⟨⟨by decide +kernel, by decide +kernel⟩, List.mem_of_getElem? (i := 713) (by decide +kernel), List.mem_of_getElem? (i := 924) (by decide +kernel), List.mem_of_getElem? (i := 925) (by decide +kernel)⟩
def lw_privs_4 : List (MethodName × Nat) := [(⟨"WireMessagesModel", "here", "(I)I"⟩, 30), (⟨"WireMessagesModel", "entry", "(I)V"⟩, 30), (⟨"WireMessagesModel", "name", "(ZZ)V"⟩, 30), (⟨"WireMessagesModel", "there", "(IIZZ)Z"⟩, 30), (⟨"WireMessagesModel", "data", "(IZ)V"⟩, 30), (⟨"WireMessagesModel", "bytes", "(I)V"⟩, 30), (⟨"WireMessagesModel", "countOf", "(I)I"⟩, 30), (⟨"WireMessagesModel", "records", "()I"⟩, 30), (⟨"WireMessagesModel", "fail", "(I)I"⟩, 30), (⟨"WireMessagesModel", "wholeName", "(I)I"⟩, 30), (⟨"WireMessagesModel", "gathered", "(IIIII)I"⟩, 30), (⟨"WireMessagesModel", "fits", "(IIZ)Z"⟩, 30), (⟨"WireMessagesModel", "must", "(I)Z"⟩, 30), (⟨"WireMessagesModel", "putEntry", "(I)V"⟩, 30), (⟨"WireMessagesModel", "putName", "(IZ)I"⟩, 30), (⟨"WireMessagesModel", "standing", "(I)I"⟩, 30)]
theorem lw_r4 : ∀ q ∈ lw_privs_4, lw_okq q := List.forall_mem_cons.mpr ⟨lw_p48, List.forall_mem_cons.mpr ⟨lw_p49, List.forall_mem_cons.mpr ⟨lw_p50, List.forall_mem_cons.mpr ⟨lw_p51, List.forall_mem_cons.mpr ⟨lw_p52, List.forall_mem_cons.mpr ⟨lw_p53, List.forall_mem_cons.mpr ⟨lw_p54, List.forall_mem_cons.mpr ⟨lw_p55, List.forall_mem_cons.mpr ⟨lw_p56, List.forall_mem_cons.mpr ⟨lw_p57, List.forall_mem_cons.mpr ⟨lw_p58, List.forall_mem_cons.mpr ⟨lw_p59, List.forall_mem_cons.mpr ⟨lw_p60, List.forall_mem_cons.mpr ⟨lw_p61, List.forall_mem_cons.mpr ⟨lw_p62, List.forall_mem_cons.mpr ⟨lw_p63, fun _ h => absurd h List.not_mem_nil⟩⟩⟩⟩⟩⟩⟩⟩⟩⟩⟩⟩⟩⟩⟩⟩
theorem lw_p64 : lw_okq (⟨"WireMessagesModel", "alike", "(II)Z"⟩, 30) := ⟨⟨by decide +kernel, by decide +kernel⟩, List.mem_of_getElem? (i := 713) (by decide +kernel), List.mem_of_getElem? (i := 928) (by decide +kernel), List.mem_of_getElem? (i := 929) (by decide +kernel)⟩
theorem lw_p65 : lw_okq (⟨"WireMessagesModel", "put", "(I)V"⟩, 30) := ⟨⟨by decide +kernel, by decide +kernel⟩, List.mem_of_getElem? (i := 713) (by decide +kernel), List.mem_of_getElem? (i := 932) (by decide +kernel), List.mem_of_getElem? (i := 933) (by decide +kernel)⟩
theorem lw_p66 : lw_okq (⟨"WireMessagesModel", "putTwo", "(I)V"⟩, 30) := ⟨⟨by decide +kernel, by decide +kernel⟩, List.mem_of_getElem? (i := 713) (by decide +kernel), List.mem_of_getElem? (i := 937) (by decide +kernel), List.mem_of_getElem? (i := 938) (by decide +kernel)⟩
theorem lw_p67 : lw_okq (⟨"WireMessagesModel", "putData", "(I)V"⟩, 30) := ⟨⟨by decide +kernel, by decide +kernel⟩, List.mem_of_getElem? (i := 713) (by decide +kernel), List.mem_of_getElem? (i := 941) (by decide +kernel), List.mem_of_getElem? (i := 942) (by decide +kernel)⟩
theorem lw_p68 : lw_okq (⟨"WireMessagesModel", "place", "(II)I"⟩, 30) := ⟨⟨by decide +kernel, by decide +kernel⟩, List.mem_of_getElem? (i := 713) (by decide +kernel), List.mem_of_getElem? (i := 961) (by decide +kernel), List.mem_of_getElem? (i := 962) (by decide +kernel)⟩
theorem lw_p69 : lw_okq (⟨"WireMessagesModel", "labels", "(I)I"⟩, 30) := ⟨⟨by decide +kernel, by decide +kernel⟩, List.mem_of_getElem? (i := 713) (by decide +kernel), List.mem_of_getElem? (i := 980) (by decide +kernel), List.mem_of_getElem? (i := 981) (by decide +kernel)⟩
theorem lw_p70 : lw_okq (⟨"WireMessagesModel", "label", "(II)I"⟩, 30) := ⟨⟨by decide +kernel, by decide +kernel⟩, List.mem_of_getElem? (i := 713) (by decide +kernel), List.mem_of_getElem? (i := 984) (by decide +kernel), List.mem_of_getElem? (i := 985) (by decide +kernel)⟩
theorem lw_p71 : lw_okq (⟨"WireMessagesModel", "compared", "(II)I"⟩, 30) := ⟨⟨by decide +kernel, by decide +kernel⟩, List.mem_of_getElem? (i := 713) (by decide +kernel), List.mem_of_getElem? (i := 988) (by decide +kernel), List.mem_of_getElem? (i := 989) (by decide +kernel)⟩
def lw_privs_5 : List (MethodName × Nat) := [(⟨"WireMessagesModel", "alike", "(II)Z"⟩, 30), (⟨"WireMessagesModel", "put", "(I)V"⟩, 30), (⟨"WireMessagesModel", "putTwo", "(I)V"⟩, 30), (⟨"WireMessagesModel", "putData", "(I)V"⟩, 30), (⟨"WireMessagesModel", "place", "(II)I"⟩, 30), (⟨"WireMessagesModel", "labels", "(I)I"⟩, 30), (⟨"WireMessagesModel", "label", "(II)I"⟩, 30), (⟨"WireMessagesModel", "compared", "(II)I"⟩, 30)]
theorem lw_r5 : ∀ q ∈ lw_privs_5, lw_okq q := List.forall_mem_cons.mpr ⟨lw_p64, List.forall_mem_cons.mpr ⟨lw_p65, List.forall_mem_cons.mpr ⟨lw_p66, List.forall_mem_cons.mpr ⟨lw_p67, List.forall_mem_cons.mpr ⟨lw_p68, List.forall_mem_cons.mpr ⟨lw_p69, List.forall_mem_cons.mpr ⟨lw_p70, List.forall_mem_cons.mpr ⟨lw_p71, fun _ h => absurd h List.not_mem_nil⟩⟩⟩⟩⟩⟩⟩⟩
def lw_privs : List (MethodName × Nat) := lw_privs_1 ++ (lw_privs_2 ++ (lw_privs_3 ++ (lw_privs_4 ++ (lw_privs_5))))
def lw_tbl : List Cond := k2_sels lw_privs ++ tables_1
theorem lw_privs_ok : ∀ q ∈ lw_privs, lw_okq q := by
  show ∀ q ∈ lw_privs_1 ++ (lw_privs_2 ++ (lw_privs_3 ++ (lw_privs_4 ++ (lw_privs_5)))), lw_okq q
  exact List.forall_mem_append.mpr ⟨lw_r1, List.forall_mem_append.mpr ⟨lw_r2, List.forall_mem_append.mpr ⟨lw_r3, List.forall_mem_append.mpr ⟨lw_r4, lw_r5⟩⟩⟩⟩
end
section
/-! METHODS THAT MAY THROW: a judgement of their own (tx_), over the library's walks. -/
section TXA
variable {l : Launch} {p : Program} {e : Env} {R : Room} {s : State} {m : MethodId} {args : Array Value} {below : List Frame} {meth : Method} {c : Code} {T : State} {locs : List Loc} {cells slots : Nat}
/-- what an invocation leaves, however it ends -/
def tx_E (st t : State) (L : List Loc) (k n : Nat) : Prop := st.WarmedH t.vm ∧ st.sameButNew ({ t with vm := st.vm } : State) L k n
def tx_F (Qc : Array Value → State → Outcome → State → Prop) (mc ms : Nat) (free : Addr → Prop) : Array Value → State → Outcome → State → Prop :=
  fun a st o t => Qc a st o t ∧ ∃ L, tx_E st t L mc ms ∧ ∀ q ∈ L, free q.base
/-- a contract whose end may be a throw -/
def tx_Met (l : Launch) (y : MethodName) (ws : List Cond) (rm : Room) (Pc : Array Value → State → Prop) (Qc : Array Value → State → Outcome → State → Prop) (mc ms : Nat) (free : Addr → Prop) : Prop :=
  MetFree l y (headSpec ws rm) Pc (fun _ _ _ _ _ => True) (tx_F Qc mc ms free)
def tx_Q (below : List Frame) (Qc : Array Value → State → Outcome → State → Prop) (a : Array Value) (s : State) (mc ms : Nat) (free : Addr → Prop) : State → Prop :=
  fun t => ∃ o, t.status = .running ∧ Ended t below o ∧ tx_F Qc mc ms free a s o t
theorem tx_call {y : MethodName} {ws : List Cond} {rm : Room} {Pc : Array Value → State → Prop} {Qc : Array Value → State → Outcome → State → Prop} {mc ms : Nat} {free : Addr → Prop} (hM : tx_Met l y ws rm Pc Qc mc ms free)
    (X : Stand p l e R s m args below meth c T locs cells slots) {g : JFrame} (hg : g.method = m) (hsize : g.locals.size = c.maxLocals) {ig : Instr} {len : Nat} (hdg : decode c.code g.pc = .ok (ig, len))
    {mk : MethodId} {methY : Method} {cY : Code} {kY : Class} (a : Array Value) (hn : T.methodNamed? y = some mk) (hmY : T.vm.method? mk = some methY) (hcY : methY.code = some cY) (hkY : T.vm.classes[mk.cls]? = some kY) (hiY : kY.init = .initialized)
    (hfr : rm.frames + 1 ≤ R.frames) (hlo : 2 * g.monitorRoom + (g.stack.map fun v => v.category).sum + (cY.maxLocals + 11) + rm.locals ≤ R.locals) (hce : cells + rm.cells ≤ R.cells) (hsl : slots + rm.slots ≤ R.slots)
    (hws : ∀ w ∈ ws, w.before a T = true) (hP : Pc a (T.calling g mk a)) :
    ∃ (o : Outcome) (t T' : State) (L : List Loc), Stand p l e R s m args below meth c T' (locs ++ L) (cells + mc) (slots + ms) ∧ T'.heap = t.heap ∧ T'.vm = t.vm ∧ Qc a (T.calling g mk a) o t ∧ (∀ q ∈ L, free q.base) ∧
      ((∃ v, o = .returned v ∧ Steps p.tables e below (doInvoke e (T.setTop g) [] mk a).1 (T'.setTop { g with pc := g.pc + len, stack := v.toList ++ g.stack })) ∨
       (∃ x, o = .threw x ∧ Steps p.tables e below (doInvoke e (T.setTop g) [] mk a).1 ((T'.setTop g).pushFrame (.throwing x)))) := by
  have h : At T g.method c below := by rw [hg]; exact X.here
  have happ : (headSpec ws rm).appliesLoose y e.platform (T.calling g mk a) = true :=
    Spec.appliesLoose_calling (g := g) h hdg hn hkY hiY (X.room_calling (g := g) (R' := rm) hsize hmY hcY hfr hlo hce hsl) (atoms_intro hws)
  obtain ⟨mid, hmid⟩ := h.above
  have hfr' : (T.setTop g).frames = (.java g :: mid) ++ below := by rw [State.frames_setTop' g h.top, hmid]; rfl
  obtain ⟨o, t, hsteps, -, hend, hq, L, ⟨hW, hs⟩, hL⟩ := Steps.callFree hM p X.admits X.cas X.clock (acts := []) hfr' happ hP trivial
  have hend : Ended t (.java g :: below) o := by
    rw [State.frames_setTop' g h.top, X.tail] at hend
    exact hend
  cases o with
  | returned v =>
    obtain ⟨T', X', -, -, ht⟩ := X.outOf hg hdg hend hW hs
    exact ⟨.returned v, t, T', L, X', by rw [ht, State.heap_setTop], by rw [ht, State.vm_setTop], hq, hL, Or.inl ⟨v, rfl, by rw [← ht]; exact hsteps⟩⟩
  | threw x =>
    obtain ⟨T', X', -, -, ht⟩ := X.outOfThrown hg hend hW hs
    exact ⟨.threw x, t, T', L, X', by rw [ht, Stand.throwing_heap], by rw [ht, Stand.throwing_vm], hq, hL, Or.inr ⟨x, rfl, by rw [← ht]; exact hsteps⟩⟩
end TXA
section TXB
variable {l : Launch} {p : Program} {e : Env} {R : Room} {s : State} {m : MethodId} {args : Array Value} {below : List Frame} {meth : Method} {c : Code} {H : Heap} {locs : List Loc} {cells slots : Nat} {Q : State → Prop}
/-- from the note 'x is thrown at the frame g', the machine comes to Q -/
def tx_W (p : Program) (l : Launch) (e : Env) (R : Room) (s : State) (m : MethodId) (args : Array Value) (below : List Frame) (meth : Method) (c : Code) (H : Heap) (locs : List Loc) (cells slots : Nat) (Q : State → Prop) (g : JFrame) (x : Addr) : Prop :=
  ∀ T : State, T.heap = H → Stand p l e R s m args below meth c T locs cells slots → ∃ t, Steps p.tables e below ((T.setTop g).pushFrame (.throwing x)) t ∧ Q t
/-- an ordinary end serves a method that may throw -/
theorem tx_ret {Qc : Array Value → State → Outcome → State → Prop} {free : Addr → Prop} {g : JFrame} {mc ms : Nat} (k : W p l e R s m args below meth c H locs cells slots (MQ below Qc args s mc ms free) g) :
    W p l e R s m args below meth c H locs cells slots (tx_Q below Qc args s mc ms free) g := by
  intro T hT X
  obtain ⟨t, a1, o, b1, b2, b3, L, hF, hL⟩ := k T hT X
  exact ⟨t, a1, o, b1, b2, b3, L, ⟨hF.2.1, hF.2.2⟩, hL⟩
theorem tx_ofW {y : MethodName} {ws ws' : List Cond} {rm : Room} {Pc : Array Value → State → Prop} {Qc : Array Value → State → Outcome → State → Prop} {mc ms : Nat} {free : Addr → Prop} {cc : ByteArray} {maxL : Nat} {ret : Option FieldType}
    (hy : plainName y.cls = true) (hw : ws = Cond.code y cc maxL ret :: ws')
    (body : ∀ p e s m args below meth c s₁, BodyLoose p l y (headSpec ws rm) cc maxL ret e s m args below meth c s₁ → c.maxLocals = maxL → c.exceptionTable.toList = [] → Pc args s →
      W p l e (headSpec ws rm).room s m args below meth c s.heap [] 0 0 (tx_Q below Qc args s mc ms free) (entryFrame m args maxL)) : tx_Met l y ws rm Pc Qc mc ms free := by
  refine MetFree.of_bodyS (code := cc) (maxLocals := maxL) (ret := ret) hy ?_ ?_
  · intro args s m h hn
    obtain ⟨meth, c, h1, h2, h3, h4, h5, h6, -, -⟩ := Cond.code_spec hn (atoms_spec (ws := ws) h _ (by rw [hw]; exact List.mem_cons_self))
    exact ⟨meth, c, h1, h2, h3, h4, h5, h6⟩
  · intro p e s m args below meth c s₁ B hml hP _
    have hh0 : s₁.heap = s.heap := by rw [B.state]; rfl
    have he : c.exceptionTable.toList = [] := by
      have h9 := B.noHandlers (atoms_spec (ws := ws) B.pre _ (by rw [hw]; exact List.mem_cons_self))
      simpa using h9
    obtain ⟨t, a1, o, b1, b2, b3⟩ := body p e s m args below meth c s₁ B hml he hP s₁ hh0 (Stand.of_body B)
    exact ⟨t, o, a1, b1, b2, b3⟩
/-- the note leaves the method: nothing there catches it -/
theorem tx_leave {Qc : Array Value → State → Outcome → State → Prop} {free : Addr → Prop} {pc : Nat} {ls : Array Slot} {rest : List Value} {x : Addr} (hout : c.exceptionTable.toList = []) (hlocks : meth.locks = false) (hf : ∀ q ∈ locs, free q.base)
    (hq : ∀ t : State, t.heap = H → s.WarmedH t.vm → Qc args s (.threw x) t) :
    tx_W p l e R s m args below meth c H locs cells slots (tx_Q below Qc args s cells slots free) (F0 m pc ls rest) x := by
  intro T hT X
  obtain ⟨h1, h2, h3, h4, h5⟩ := X.leaveThrown x (g := F0 m pc ls rest) rfl rfl rfl (by rw [hout]; intro y hy; cases hy) hlocks
  exact ⟨_, h1, .threw x, h2, h3, hq _ hT h4, locs, ⟨h4, h5⟩, hf⟩
end TXB
end
section
/-! THROWABLE'S OWN STATICS, which nobody writes -/
/-- the static reference field n of Throwable: laid, in its own cell, outside of A -/
def tx_S (n d : String) (A : Nat → Prop) (U : State) (H : Heap) : Prop :=
  ∃ (k : ClassId) (kc : Class) (i : Nat) (f : Field) (a : Nat) (cell : Cell) (v : Value), U.vm.findClass Bundle.tN = some k ∧ U.fieldFound? Bundle.tN n d = some (k, kc, i, f) ∧ f.isStatic = true ∧ kc.statics = some a ∧ H[a]? = some cell ∧ cell.vm.isStatics = true ∧ cell.cls = k ∧
    f.slot < cell.slots.size ∧ kc.staticTypes[f.slot]? = some f.type ∧ cell.slots[f.slot]? = some v ∧ (v = .null ∨ ∃ r, v = .ref r) ∧ ¬ A a
theorem tx_S.moved {n d : String} {A : Nat → Prop} {u U : State} {H : Heap} (hvm : u.vm.Alike U.vm) (h : tx_S n d A u H) : tx_S n d A U H := by
  obtain ⟨k, kc, i, f, a, cell, v, h1, h2, h3, h4, h5, h6, h7, h8, h9, h10⟩ := h
  obtain ⟨k', hi', he⟩ := State.fieldFound?_setVm hvm h2
  exact ⟨k, k', i, f, a, cell, v, by rw [hvm.findClass]; exact h1, hi', h3, by rw [he]; exact h4, h5, h6, h7, h8, by rw [he]; exact h9, h10⟩
theorem tx_S.kept {n d : String} {A : Nat → Prop} {U : State} {H H1 : Heap} (h : tx_S n d A U H) (hq : ∀ a : Nat, a < H.size → ¬ A a → H1[a]? = H[a]?) : tx_S n d A U H1 := by
  obtain ⟨k, kc, i, f, a, cell, v, h1, h2, h3, h4, h5, h6, h7, h8, h9, h10, h11, h12⟩ := h
  exact ⟨k, kc, i, f, a, cell, v, h1, h2, h3, h4, by rw [hq a (Array.getElem?_eq_some_iff.mp h5).1 h12]; exact h5, h6, h7, h8, h9, h10, h11, h12⟩
theorem tx_S.narrow {n d : String} {A B : Nat → Prop} {U : State} {H : Heap} (h : tx_S n d A U H) (hAB : ∀ q : Nat, q < H.size → B q → A q) : tx_S n d B U H := by
  obtain ⟨k, kc, i, f, a, cell, v, h1, h2, h3, h4, h5, h6, h7, h8, h9, h10, h11, h12⟩ := h
  exact ⟨k, kc, i, f, a, cell, v, h1, h2, h3, h4, h5, h6, h7, h8, h9, h10, h11, fun z => h12 (hAB a (Array.getElem?_eq_some_iff.mp h5).1 z)⟩
theorem tx_S.lay {n d : String} {A : Nat → Prop} {U : State} {args : Array Value} (h : tx_S n d A U U.heap) : (Cond.laysStatic Bundle.tN n d).before args U = true := by
  obtain ⟨k, kc, i, f, a, cell, v, h1, h2, h3, h4, h5, h6, h7, h8, h9, h10, h11, h12⟩ := h
  simp [Cond.before, Cond.holds, Cond.value, h1, h2, h3, h4, h5, h6, h7, h8, h9]
theorem tx_S.isRef {n d : String} {A : Nat → Prop} {U : State} {args : Array Value} (h : tx_S n d A U U.heap) : (Cond.isRef (.static Bundle.tN n d)).before args U = true := by
  obtain ⟨k, kc, i, f, a, cell, v, h1, h2, h3, h4, h5, h6, h7, h8, h9, h10, h11, h12⟩ := h
  have he : (Term.static Bundle.tN n d).eval args U none [] U = some v := by
    simp [Term.eval, State.fieldNamed?, h2, h3, h4, h5, h6, h10]
  rcases h11 with rfl | ⟨r, rfl⟩ <;> simp [Cond.before, Cond.holds, Cond.value, he]
theorem tx_S.of {n d : String} {A : Nat → Prop} {s : State} {args : Array Value} (hl : (Cond.laysStatic Bundle.tN n d).before args s = true) (hr : (Cond.isRef (.static Bundle.tN n d)).before args s = true) (hA : ∀ a : Nat, a < s.heap.size → ¬ A a) : tx_S n d A s s.heap := by
  obtain ⟨k, kc, i, f, a, cell, h1, h2, h3, h4, h5, h6, h7, h8, h9⟩ := Cond.laysStatic_spec hl
  cases hv : (Term.static Bundle.tN n d).eval args s none [] s with
  | none => simp [Cond.before, Cond.holds, Cond.value, hv] at hr
  | some v =>
    obtain ⟨-, a', cell', ha', hcell', -, hslot⟩ := Term.static_spec h2 hv
    cases h4.symm.trans ha'
    cases h5.symm.trans hcell'
    refine ⟨k, kc, i, f, a, cell, v, h1, h2, h3, h4, h5, h6, h7, h8, h9, hslot, ?_, hA a (Array.getElem?_eq_some_iff.mp h5).1⟩
    cases v <;> simp [Cond.before, Cond.holds, Cond.value, hv] at hr ⊢
/-- both of them -/
def tx_Z (A : Nat → Prop) (U : State) (H : Heap) : Prop := tx_S "UNASSIGNED_STACK" Bundle.steD A U H ∧ tx_S "SUPPRESSED_SENTINEL" Bundle.listD A U H
theorem tx_Z.moved {A : Nat → Prop} {u U : State} {H : Heap} (hvm : u.vm.Alike U.vm) (h : tx_Z A u H) : tx_Z A U H := ⟨h.1.moved hvm, h.2.moved hvm⟩
theorem tx_Z.kept {A : Nat → Prop} {U : State} {H H1 : Heap} (h : tx_Z A U H) (hq : ∀ a : Nat, a < H.size → ¬ A a → H1[a]? = H[a]?) : tx_Z A U H1 := ⟨h.1.kept hq, h.2.kept hq⟩
theorem tx_Z.narrow {A B : Nat → Prop} {U : State} {H : Heap} (h : tx_Z A U H) (hAB : ∀ q : Nat, q < H.size → B q → A q) : tx_Z B U H := ⟨h.1.narrow hAB, h.2.narrow hAB⟩
/-- the words of 'new E(); throw' that the tables alone say -/
def tx_tab (w : Cond) : Bool := decide (w ≠ .isRef (.static Bundle.tN "UNASSIGNED_STACK" Bundle.steD)) && decide (w ≠ .isRef (.static Bundle.tN "SUPPRESSED_SENTINEL" Bundle.listD)) && decide (w ≠ .laysStatic Bundle.tN "UNASSIGNED_STACK" Bundle.steD) && decide (w ≠ .laysStatic Bundle.tN "SUPPRESSED_SENTINEL" Bundle.listD)
theorem tx_words {own cls : String} {names : List String} {ic : Nat} {A : Nat → Prop} {s : State} {args : Array Value} (hZ : tx_Z A s s.heap) (h : ∀ w ∈ (Bundle.ownAtoms0 own ic cls names).filter tx_tab, w.before args s = true) :
    ∀ w ∈ Bundle.ownAtoms0 own ic cls names, w.before args s = true := by
  intro w hw
  by_cases h1 : w = .isRef (.static Bundle.tN "UNASSIGNED_STACK" Bundle.steD)
  · rw [h1]; exact hZ.1.isRef
  by_cases h2 : w = .isRef (.static Bundle.tN "SUPPRESSED_SENTINEL" Bundle.listD)
  · rw [h2]; exact hZ.2.isRef
  by_cases h3 : w = .laysStatic Bundle.tN "UNASSIGNED_STACK" Bundle.steD
  · rw [h3]; exact hZ.1.lay
  by_cases h4 : w = .laysStatic Bundle.tN "SUPPRESSED_SENTINEL" Bundle.listD
  · rw [h4]; exact hZ.2.lay
  exact h w (List.mem_filter.mpr ⟨hw, by simp [tx_tab, h1, h2, h3, h4]⟩)
section TXC
variable {l : Launch} {p : Program} {e : Env} {R : Room} {s : State} {m : MethodId} {args : Array Value} {below : List Frame} {meth : Method} {c : Code} {H : Heap} {locs : List Loc} {cells slots : Nat}
/-- what is kept by a frame: cells that were there and that it doesn't name -/
theorem tx_frame {t : State} {k n : Nat} (h : s.sameButNew ({ t with vm := s.vm } : State) locs k n) : s.heap.size ≤ t.heap.size ∧ ∀ q : Nat, q < s.heap.size → (∀ z ∈ locs, z.base ≠ q) → t.heap[q]? = s.heap[q]? := by
  obtain ⟨-, h2, -, -, -, h6⟩ := h
  refine ⟨h2, fun q hq hz => ?_⟩
  have hc : s.heap[q]? = some s.heap[q] := Array.getElem?_eq_getElem hq
  obtain ⟨c', g1, g2, g3, g4⟩ := h6 q _ hc
  have g1 : t.heap[q]? = some c' := g1
  rw [g1, hc]
  have hs : c'.slots = s.heap[q].slots := by
    refine Array.ext_getElem? fun i => ?_
    exact g4 i (fun hm => hz _ hm rfl)
  rw [g2, hs]
/-- 'throw new E()' where nothing catches it: new; dup; invokespecial; athrow -/
theorem tx_throw {cc : ByteArray} {pc : Nat} {ls : Array Slot} {rest : List Value} {Qc : Array Value → State → Outcome → State → Prop} {free : Addr → Prop} {mc ms : Nat} {A : Nat → Prop} (hexec : p.tables.exec = Jvm.exec) (hb : c.code = cc) (hfl : l.flags = pinnedFlags ++ [noTraceFlag]) {own cls : String} {names : List String} {ik ic : Nat}
    (hown : s.vm.findClass own = some m.cls) (hcls : Bundle.fit cls = true) (hnames : ∀ n ∈ names, Bundle.fit n = true) (hZ : tx_Z A s s.heap)
    (hat : ∀ w ∈ (Bundle.ownAtoms0 own ic cls names).filter tx_tab, w.before args s = true) (hk : (Cond.classLink own ik cls).before args s = true) (hini : (Cond.initialized cls).before args s = true)
    (hS : va_S A s.heap H locs) (hlocs : ∀ q : Nat, A q → ∀ cell, s.heap[q]? = some cell → cell.vm.isStatics = false) (hsize : ls.size = c.maxLocals) (hout : c.exceptionTable.toList = []) (hlocks : meth.locks = false)
    (hRf : names.length + 3 < R.frames) (hRl : (rest.map fun v => v.category).sum + (13 * (names.length + 1) + 42) ≤ R.locals) (hRc : cells + 1 ≤ R.cells) (hRs : slots + 6 ≤ R.slots) (hmc : cells + 1 ≤ mc) (hms : slots + 6 ≤ ms)
    (d0 : decode cc pc = .ok (.new ik, 3)) (d3 : decode cc (pc + 3) = .ok (.dup, 1)) (d4 : decode cc (pc + 4) = .ok (.invokespecial ic, 3)) (d7 : decode cc (pc + 7) = .ok (.athrow, 1)) (hf : ∀ q ∈ locs, free q.base)
    (hq : ∀ (q : Addr) (ce : Cell) (t : State), s.WarmedH t.vm → H.size ≤ q → t.heap[q]? = some ce → ce.vm = .none → s.vm.findClass cls = some ce.cls → va_F A s t → Qc args s (.threw q) t) :
    W p l e R s m args below meth c H locs cells slots (tx_Q below Qc args s mc ms free) (F0 m pc ls rest) := by
  intro T hT X
  have htr : e.platform.stackTraces = false := Launch.traces_off hfl X.admits
  have hw := tx_words hZ hat
  have hins : (Cond.instantiable cls 6).before args s = true := hw _ (by simp [Bundle.ownAtoms0])
  obtain ⟨vm₁, cX, kX, hfX, hkX, -, -, X₁, st1⟩ := X.newCold hexec (own := own) (C := cls) (index := ik) (n := 6) hown hk hins hini (g := F0 m pc ls rest) rfl (by rw [hb]; exact d0) hRc hRs
  generalize hT1 : (T.setVm vm₁).pushCell { cls := cX, slots := kX.instanceTypes.map defaultValue, vm := .none } = T1 at X₁ st1
  have hcellA : T1.heap[T.heap.size]? = some (freshCell cX kX) := by rw [← hT1]; exact State.heap_pushCell_size _ _
  have d3' : decode c.code (pc + 3) = .ok (.dup, 1) := by rw [hb]; exact d3
  have hcat : (Value.ref T.heap.size).category = 1 := rfl
  obtain ⟨U, hsteps, hrun, hend, hW, hsame, ce, hce, hO⟩ := X₁.ctorThrow0 hexec htr (own := own) (cls := cls) (names := names) (ic := ic) hown hcls hnames hw (fun x hx cell hc => hlocs _ (hS.2.2 x hx) cell hc) hfX hkX hcellA (by rw [hT]; exact hS.1)
    (g := { method := m, pc := pc + 4, locals := ls, stack := .ref T.heap.size :: .ref T.heap.size :: rest, locked := none }) rfl hsize rfl rfl (rest := rest) rfl
    (by rw [hb]; exact d4) (by rw [hb]; exact d7) (by rw [hout]; intro y hy; cases hy) hRf (by simp only [List.map_cons, List.sum_cons, hcat]; show 2 * 0 + _ + _ ≤ _; omega) hlocks
  obtain ⟨f1, f2⟩ := tx_frame hsame
  refine ⟨U, ?_, .threw T.heap.size, hrun, hend, hq T.heap.size ce U hW (by rw [hT]; exact Nat.le_refl _) hce hO.vm hO.cls ⟨f1, fun q h1 h2 => f2 q h1 (fun z hz e9 => h2 (by rw [← e9]; exact hS.2.2 z hz))⟩, locs, ⟨hW, hsame.mono hmc hms⟩, hf⟩
  refine st1 _ ?_
  show Steps p.tables e below (T1.setTop { method := m, pc := pc + 3, locals := ls, stack := .ref T.heap.size :: rest, locked := none }) _
  jvm_step X₁.here [X₁.here.top, hexec, d3', Value.category]
  exact hsteps
end TXC
end
section
/-! CALLS OF METHODS THAT MAY THROW, AND HANDLERS -/
section TXD
variable {l : Launch} {p : Program} {e : Env} {R : Room} {s : State} {m : MethodId} {args : Array Value} {below : List Frame} {meth : Method} {c : Code} {H : Heap} {locs : List Loc} {cells slots : Nat} {Q : State → Prop}
def tx_Run (p : Program) (l : Launch) (e : Env) (R : Room) (s : State) (m : MethodId) (args : Array Value) (below : List Frame) (meth : Method) (c : Code) (H : Heap) (locs : List Loc) (cells slots mc ms : Nat) (g : JFrame) (rest : List Value) (Qa : State → Outcome → State → Prop) (free : Addr → Prop) : Prop :=
  ∀ T : State, T.heap = H → Stand p l e R s m args below meth c T locs cells slots → ∃ (o : Outcome) (st₀ t T' : State) (L : List Loc), st₀.heap = H ∧ s.vm.Alike st₀.vm ∧ Stand p l e R s m args below meth c T' (locs ++ L) (cells + mc) (slots + ms) ∧ (∀ q ∈ L, free q.base) ∧ T'.heap = t.heap ∧ T'.vm = t.vm ∧ Qa st₀ o t ∧
    ((∃ v, o = .returned v ∧ Goes p e below T g T' { g with pc := g.pc + 3, stack := v.toList ++ rest }) ∨
     (∃ x, o = .threw x ∧ ∀ tg, Steps p.tables e below ((T'.setTop { g with stack := rest }).pushFrame (.throwing x)) tg → Steps p.tables e below (T.setTop g) tg))
variable {y : MethodName} {bytes cc : ByteArray} {maxL nL mc ms n index : Nat} {ret : Option FieldType} {ws : List Cond} {rm : Room} {Pc : Array Value → State → Prop} {Qc : Array Value → State → Outcome → State → Prop} {free : Addr → Prop} {Ts : List Cond} {own C : String} {b : Addr} {As rest : List Value} {g : JFrame}
theorem tx_virt (S : CallFix p m c cc nL s args Ts own) (hM : tx_Met l y ws rm Pc Qc mc ms free) (cw : CallW R s args own C index y bytes maxL ret ws rm mc ms n) (hp : PreV s H C b Pc As)
    (hg : g.method = m) (hn : As.length = n) (hsize : g.locals.size = nL) (hstack : g.stack = As.reverse ++ .ref b :: rest) (hW : 2 * g.monitorRoom + (rest.map fun v => v.category).sum ≤ 8) (hdg : decode cc g.pc = .ok (.invokevirtual index, 3)) (hf : cells + mc ≤ R.cells ∧ slots + ms ≤ R.slots) :
    tx_Run p l e R s m args below meth c H locs cells slots mc ms g rest (Qc (Value.ref b :: As).toArray) free := by
  obtain ⟨⟨hrc, hrs, hfr, hlo, hws, hcw, hcode, hini, hy, hlen, hl⟩, hin, hse⟩ := cw
  obtain ⟨hx, hb, hml, ho, -⟩ := S
  obtain ⟨hbl, ⟨cellB, hcB, hoB, hclB⟩, hPc⟩ := hp
  intro T hT X
  obtain ⟨mk, methM, hnamed, hmethM, hstM, habM⟩ := Cond.instanceMethod_spec hin
  obtain ⟨methM', cM, hmethM', -, -, -, -, -, -, hsigM⟩ := Cond.code_spec hnamed hcode
  cases hmethM.symm.trans hmethM'
  obtain ⟨c2, r2, m2, q1, q2, q3, q4, kP, hkP, hkPi⟩ := Cond.selects_spec hse
  cases hclB.symm.trans q1
  cases (State.methodFound?_of_named hnamed hy).symm.trans q2
  cases hnamed.symm.trans q3
  have hselP : selectMethod e.platform s.vm cellB.cls mk = .method mk := by rw [Launch.admits_selectMethod X.admits]; exact q4
  have hdg' : decode c.code g.pc = .ok (.invokevirtual index, 3) := by rw [hb]; exact hdg
  obtain ⟨vm₁, X₁, hstep₁⟩ := X.invokevirtual hx ho hl hnamed hmethM hstM hkP hkPi hy (a := b) (cell := cellB) (by rw [hT]; exact hcB)
    (fun z h => by rw [h] at hoB; cases hoB) hselP hmethM habM hkP hkPi (g := g) hg (argsL := As) (rest := rest) (hn.trans (hlen _ hsigM)) hstack hdg'
  have hn1 := X₁.named hnamed
  have hw1 : ∀ w ∈ ws, w.before (Value.ref b :: As).toArray (T.setVm vm₁) = true := fun w hw => hws w hw _ _ X₁.warmed
  obtain ⟨methY, cY, hmY, hcY, -, hlY, -⟩ := Cond.code_spec hn1 (hw1 _ hcw)
  obtain ⟨kY, hkY, -⟩ := className_of_methodNamed hn1
  have hiY : kY.init = .initialized := Cond.initialized_spec (findClass_of_methodNamed hn1) hkY (word_at (a' := (Value.ref b :: As).toArray) X₁.warmed (Or.inl (by first | rfl | simp [Cond.onTables, Cond.keeps, Cond.steady])) hini)
  obtain ⟨o, t, T', L, X', e1, e2, hq, hL, hor⟩ := tx_call hM X₁ (g := { g with stack := rest }) hg (hsize.trans hml.symm) hdg' (Value.ref b :: As).toArray hn1 hmY hcY hkY hiY hfr
    (by rw [hlY]; show 2 * g.monitorRoom + (rest.map fun v => v.category).sum + (maxL + 11) + rm.locals ≤ R.locals; omega) (by rw [hrc]; exact hf.1) (by rw [hrs]; exact hf.2) hw1 (hbl _ _ _ _ (hPc (T.setVm vm₁) hT X₁.warmed))
  refine ⟨o, (T.setVm vm₁).calling { g with stack := rest } mk (Value.ref b :: As).toArray, t, T', L, hT, X₁.warmed.alike, X', hL, e1, e2, hq, ?_⟩
  rcases hor with ⟨v, rfl, hst⟩ | ⟨x, rfl, hst⟩
  · exact Or.inl ⟨v, rfl, fun tg h => hstep₁ _ fun acts => by rw [doInvoke_state]; exact hst.trans h⟩
  · exact Or.inr ⟨x, rfl, fun tg h => hstep₁ _ fun acts => by rw [doInvoke_state]; exact hst.trans h⟩
/-- a static method that has handlers of its own -/
theorem tx_statW {hh : List (Nat × Nat × Nat × Nat)} (S : CallFix p m c cc nL s args Ts own) (hM : tx_Met l y ws rm Pc Qc mc ms free)
    (hrc : rm.cells = mc) (hrs : rm.slots = ms) (hfr : rm.frames + 1 ≤ R.frames) (hlo : 8 + (maxL + 11) + rm.locals ≤ R.locals) (hws : ∀ w ∈ ws, ∀ (a' : Array Value) (U : State), s.WarmedH U.vm → w.before a' U = true) (hcw : Cond.codeWith y bytes maxL ret hh ∈ ws)
    (hini : (Cond.initialized y.cls).before args s = true) (hstat : (Cond.static y).before args s = true) (hl : (Cond.methodLink own index y).before args s = true) (hy : y.cls ≠ "java/lang/invoke/MethodHandle" ∧ y.cls ≠ "java/lang/invoke/VarHandle") (hlen : (parseMethodDescriptor y.desc).map (fun d => d.parameters.length) = some As.length) (hp : PreS s H Pc As)
    (hg : g.method = m) (hsize : g.locals.size = nL) (hstack : g.stack = As.reverse ++ rest) (hW : 2 * g.monitorRoom + (rest.map fun v => v.category).sum ≤ 8) (hdg : decode cc g.pc = .ok (.invokestatic index, 3)) (hf : cells + mc ≤ R.cells ∧ slots + ms ≤ R.slots) :
    tx_Run p l e R s m args below meth c H locs cells slots mc ms g rest (Qc As.toArray) free := by
  obtain ⟨hx, hb, hml, ho, -⟩ := S
  obtain ⟨hbl, hPc⟩ := hp
  intro T hT X
  have hs0 : s.WarmedH s.vm := State.WarmedH.refl s
  obtain ⟨mk, methM, cM, hnamed, hmethM, -, -, -, -, -, -, hsigM⟩ := Cond.codeWith_spec (hws _ hcw args s hs0)
  have hstatic : methM.isStatic = true := Cond.static_spec hnamed hmethM hstat
  obtain ⟨kP, hkP, -⟩ := className_of_methodNamed hnamed
  have hinitP : kP.init = .initialized := Cond.initialized_spec (findClass_of_methodNamed hnamed) hkP hini
  have hdg' : decode c.code g.pc = .ok (.invokestatic index, 3) := by rw [hb]; exact hdg
  have hl9 : As.length = methM.sig.parameters.length := by
    rw [hsigM] at hlen
    exact (Option.some.inj hlen).symm
  obtain ⟨vm₁, X₁, hstep₁⟩ := X.invokestatic hx ho hl hnamed hmethM hstatic hkP hinitP hy (g := g) hg (argsL := As) (rest := rest) hl9 hstack hdg'
  have hn1 := X₁.named hnamed
  have hw1 : ∀ w ∈ ws, w.before As.toArray (T.setVm vm₁) = true := fun w hw => hws w hw _ _ X₁.warmed
  obtain ⟨mk', methY, cY, hn9, hmY, hcY, -, hlY, -⟩ := Cond.codeWith_spec (hw1 _ hcw)
  cases hn1.symm.trans hn9
  obtain ⟨kY, hkY, -⟩ := className_of_methodNamed hn1
  have hiY : kY.init = .initialized := Cond.initialized_spec (findClass_of_methodNamed hn1) hkY (word_at (a' := As.toArray) X₁.warmed (Or.inl (by first | rfl | simp [Cond.onTables, Cond.keeps, Cond.steady])) hini)
  obtain ⟨o, t, T', L, X', e1, e2, hq, hL, hor⟩ := tx_call hM X₁ (g := { g with stack := rest }) hg (hsize.trans hml.symm) hdg' As.toArray hn1 hmY hcY hkY hiY hfr
    (by rw [hlY]; show 2 * g.monitorRoom + (rest.map fun v => v.category).sum + (maxL + 11) + rm.locals ≤ R.locals; omega) (by rw [hrc]; exact hf.1) (by rw [hrs]; exact hf.2) hw1 (hbl _ _ _ _ (hPc (T.setVm vm₁) hT X₁.warmed))
  refine ⟨o, (T.setVm vm₁).calling { g with stack := rest } mk As.toArray, t, T', L, hT, X₁.warmed.alike, X', hL, e1, e2, hq, ?_⟩
  rcases hor with ⟨v, rfl, hst⟩ | ⟨x, rfl, hst⟩
  · exact Or.inl ⟨v, rfl, fun tg h => hstep₁ _ fun acts => by rw [doInvoke_state]; exact hst.trans h⟩
  · exact Or.inr ⟨x, rfl, fun tg h => hstep₁ _ fun acts => by rw [doInvoke_state]; exact hst.trans h⟩
/-- an int comes back, or an exception of a known class -/
def tx_QI {S : Type} (post : Int32 → S → Prop) (B : S → State → Prop) (px : String → Prop) (A : Nat → Prop) : Array Value → State → Outcome → State → Prop := fun _ st oc t =>
  ((∃ (r : Int32) (u : S), oc = .returned (some (.int r)) ∧ post r u ∧ B u t) ∨ (∃ (q : Addr) (E : String) (ce : Cell), oc = .threw q ∧ px E ∧ t.heap[q]? = some ce ∧ ce.vm = .none ∧ st.vm.findClass E = some ce.cls)) ∧ va_F A st t
theorem tx_calli {S : Type} {post : Int32 → S → Prop} {B : S → State → Prop} {px : String → Prop} {A0 A1 : Nat → Prop} {H0 : Heap} {a : Array Value} {pc : Nat} {ls : Array Slot} {st0 : List Value}
    (hr : tx_Run p l e R s m args below meth c H locs cells slots mc ms (F0 m pc ls st0) rest (tx_QI post B px A1 a) free) (hS : va_S A0 H0 H locs) (hA : ∀ q, q < H.size → A1 q → A0 q) (hf : ∀ q, free q → A0 q)
    (kx : ∀ (q : Addr) (E : String) (ce : Cell) (H1 : Heap) (locs1 : List Loc), px E → H1[q]? = some ce → ce.vm = .none → s.vm.findClass E = some ce.cls → H.size ≤ H1.size → (∀ q : Nat, q < H.size → ¬ A1 q → H1[q]? = H[q]?) → va_S A0 H0 H1 locs1 → tx_W p l e R s m args below meth c H1 locs1 (cells + mc) (slots + ms) Q (F0 m pc ls rest) q)
    (kk : ∀ (r : Int32) (u : S) (t : State) (H1 : Heap) (locs1 : List Loc), t.heap = H1 → s.vm.Alike t.vm → post r u → B u t → H.size ≤ H1.size → (∀ q : Nat, q < H.size → ¬ A1 q → H1[q]? = H[q]?) → va_S A0 H0 H1 locs1 → W p l e R s m args below meth c H1 locs1 (cells + mc) (slots + ms) Q (F0 m (pc + 3) ls (.int r :: rest))) :
    W p l e R s m args below meth c H locs cells slots Q (F0 m pc ls st0) := by
  intro T hT X
  obtain ⟨o, st₀, t, T', L, h0, h0v, X', hL, e1, e2, ⟨hq, hz, hk⟩, hor⟩ := hr T hT X
  rw [h0] at hz hk
  have hS1 : va_S A0 H0 T'.heap (locs ++ L) := ⟨Nat.le_trans hS.1 (by rw [e1]; exact hz), fun q h1 h2 => by rw [e1, hk q (Nat.lt_of_lt_of_le h1 hS.1) (fun z => h2 (hA q (Nat.lt_of_lt_of_le h1 hS.1) z))]; exact hS.2.1 q h1 h2, fun q hq => by
      rcases List.mem_append.mp hq with h | h
      · exact hS.2.2 q h
      · exact hf _ (hL q h)⟩
  have hz1 : H.size ≤ T'.heap.size := by rw [e1]; exact hz
  have hk1 : ∀ q : Nat, q < H.size → ¬ A1 q → T'.heap[q]? = H[q]? := fun q h1 h2 => by rw [e1]; exact hk q h1 h2
  rcases hq with ⟨r, u, rfl, hp, hB⟩ | ⟨q, E, ce, rfl, hp, hce, hcv, hcl⟩
  · rcases hor with ⟨v, hv, st⟩ | ⟨x, hv, st⟩
    · cases hv
      obtain ⟨t2, a1, b1⟩ := kk r u t T'.heap (locs ++ L) e1.symm (by rw [← e2]; exact X'.warmed.alike) hp hB hz1 hk1 hS1 T' rfl X'
      exact ⟨t2, st t2 a1, b1⟩
    · cases hv
  · rcases hor with ⟨v, hv, st⟩ | ⟨x, hv, st⟩
    · cases hv
    · cases hv
      obtain ⟨t2, a1, b1⟩ := kx q E ce T'.heap (locs ++ L) hp (by rw [e1]; exact hce) hcv (by rw [← h0v.findClass]; exact hcl) hz1 hk1 hS1 T' rfl X'
      exact ⟨t2, st t2 a1, b1⟩
end TXD
section TXE
variable {e : Env} {s : State} {f : JFrame} {a : Addr}
theorem tx_goYes {Q : Handler → Jvm.Pre} {E : Jvm.CtlPost} {d : Bool} {acts : List Action} {S : State} {x : ExceptionTableEntry} {t : List ExceptionTableEntry} {k : ClassId} {cell : Cell} (hx : covers x f.pc = true) (h0 : x.catchType ≠ 0)
    (hl : S.vm.ClassLinks e.platform f.method.cls x.catchType k) (hcell : S.heap[a]? = some cell) (hobj : ∀ k, cell.vm ≠ .statics k)
    (hk : ∃ k, S.vm.classes[cell.cls]? = some k) (hc : ∃ z, S.vm.classes[k]? = some z) (hyes : S.vm.assignable cell.cls k = true) :
    Sem.wp (findHandler.go f a (x :: t)) Q E e d acts S ↔ Q (.found x.handlerPc) d acts (S.setVm (S.vm.noted f.method.cls x.catchType (.cls k))) := by
  simp only [covers] at hx
  obtain ⟨ha, ht⟩ := (resolveClass_links e.toSetting hl).op (op := VmOp.resolveClass f.method.cls x.catchType) rfl
  have hal : S.vm.Alike (S.vm.noted f.method.cls x.catchType (.cls k)) := (Vm.Alike.refl S.vm).noted _ _ _
  obtain ⟨k1, hk1⟩ := hk
  obtain ⟨k2, hk2⟩ := hc
  obtain ⟨k1', hk1', -⟩ := hal.2.2 _ _ hk1
  obtain ⟨k2', hk2', -⟩ := hal.2.2 _ _ hk2
  have hy : (S.vm.noted f.method.cls x.catchType (.cls k)).assignable cell.cls k = true := by rw [hal.assignable]; exact hyes
  simp [findHandler.go, hx, h0, ha, ht, hcell, hobj, hk1', hk2', hy, VmOp.dirties, VmOp.acts]
theorem tx_goNo {Q : Handler → Jvm.Pre} {E : Jvm.CtlPost} {d : Bool} {acts : List Action} {S : State} {x : ExceptionTableEntry} {t : List ExceptionTableEntry} {k : ClassId} {cell : Cell} (hx : covers x f.pc = true) (h0 : x.catchType ≠ 0)
    (hl : S.vm.ClassLinks e.platform f.method.cls x.catchType k) (hcell : S.heap[a]? = some cell) (hobj : ∀ k, cell.vm ≠ .statics k)
    (hk : ∃ k, S.vm.classes[cell.cls]? = some k) (hc : ∃ z, S.vm.classes[k]? = some z) (hno : S.vm.assignable cell.cls k = false) :
    Sem.wp (findHandler.go f a (x :: t)) Q E e d acts S ↔ Sem.wp (findHandler.go f a t) Q E e d acts (S.setVm (S.vm.noted f.method.cls x.catchType (.cls k))) := by
  simp only [covers] at hx
  obtain ⟨ha, ht⟩ := (resolveClass_links e.toSetting hl).op (op := VmOp.resolveClass f.method.cls x.catchType) rfl
  have hal : S.vm.Alike (S.vm.noted f.method.cls x.catchType (.cls k)) := (Vm.Alike.refl S.vm).noted _ _ _
  obtain ⟨k1, hk1⟩ := hk
  obtain ⟨k2, hk2⟩ := hc
  obtain ⟨k1', hk1', -⟩ := hal.2.2 _ _ hk1
  obtain ⟨k2', hk2', -⟩ := hal.2.2 _ _ hk2
  have hy : (S.vm.noted f.method.cls x.catchType (.cls k)).assignable cell.cls k = false := by rw [hal.assignable]; exact hno
  simp [findHandler.go, hx, h0, ha, ht, hcell, hobj, hk1', hk2', hy, VmOp.dirties, VmOp.acts]
/-- the search through the rows L comes to the handler h, whatever has been resolved on the way -/
def tx_FT (e : Env) (f : JFrame) (a : Addr) (L : List ExceptionTableEntry) (h : Nat) (s : State) (H : Heap) : Prop :=
  ∀ S : State, s.WarmedH S.vm → S.heap = H → ∃ vm', s.WarmedH vm' ∧ ∀ (Q : Handler → Jvm.Pre) (E : Jvm.CtlPost) (d : Bool) (acts : List Action), Sem.wp (findHandler.go f a L) Q E e d acts S ↔ Q (.found h) d acts (S.setVm vm')
theorem tx_hit {H : Heap} {args : Array Value} {x : ExceptionTableEntry} {L : List ExceptionTableEntry} (hpl : e.platform.magicAccessors = ({} : Platform).magicAccessors) (hx : covers x f.pc = true) (h0 : x.catchType ≠ 0) {own E : String} (hown : s.vm.findClass own = some f.method.cls) (hlink : (Cond.classLink own x.catchType E).before args s = true)
    {ce : Cell} (hcell : H[a]? = some ce) (hv : ce.vm = .none) (hcl : s.vm.findClass E = some ce.cls) : tx_FT e f a (x :: L) x.handlerPc s H := by
  intro S hW hS
  obtain ⟨c5, hc5, hl⟩ := Cond.classLink_spec hown hlink e.platform hpl
  cases hcl.symm.trans hc5
  obtain ⟨dk, _, _, kt, hd, _, _, _, _, hkt, _, hopen⟩ := hl.here
  obtain ⟨kt', hkt', -⟩ := hW.alike.2.2 _ _ hkt
  refine ⟨_, hW.noted hd hopen (State.rightAt_cls hl), fun Q E d acts => ?_⟩
  exact tx_goYes hx h0 (hW.classLinks hl) (by rw [hS]; exact hcell) (by rw [hv]; intro k h; cases h) ⟨kt', hkt'⟩ ⟨kt', hkt'⟩ (Vm.assignable_self _ _)
theorem tx_miss {H : Heap} {args : Array Value} {x : ExceptionTableEntry} {L : List ExceptionTableEntry} {h : Nat} (hpl : e.platform.magicAccessors = ({} : Platform).magicAccessors) (hx : covers x f.pc = true) (h0 : x.catchType ≠ 0) {own E N : String} (hown : s.vm.findClass own = some f.method.cls) (hlink : (Cond.classLink own x.catchType N).before args s = true)
    (hno : (Cond.not (.castable E N)).before args s = true) {ce : Cell} (hcell : H[a]? = some ce) (hv : ce.vm = .none) (hcl : s.vm.findClass E = some ce.cls) (hL : tx_FT e f a L h s H) : tx_FT e f a (x :: L) h s H := by
  intro S hW hS
  obtain ⟨c5, hc5, hl⟩ := Cond.classLink_spec hown hlink e.platform hpl
  have hv9 := Cond.holds_not_iff.mp hno
  simp only [Cond.value, hcl, hc5] at hv9
  have hno' : s.vm.assignable ce.cls c5 = false := Option.some.inj hv9
  obtain ⟨dk, _, _, kt, hd, _, _, _, _, hkt, _, hopen⟩ := hl.here
  obtain ⟨kt', hkt', -⟩ := hW.alike.2.2 _ _ hkt
  obtain ⟨k9, hk9, -⟩ := Vm.findClass_spec hcl
  obtain ⟨k9', hk9', -⟩ := hW.alike.2.2 _ _ hk9
  obtain ⟨vm', hW', hq⟩ := hL (S.setVm (S.vm.noted f.method.cls x.catchType (.cls c5))) (hW.noted hd hopen (State.rightAt_cls hl)) hS
  refine ⟨vm', hW', fun Q E d acts => ?_⟩
  rw [tx_goNo hx h0 (hW.classLinks hl) (by rw [hS]; exact hcell) (by rw [hv]; intro k h; cases h) ⟨k9', hk9'⟩ ⟨kt', hkt'⟩ (by rw [hW.alike.assignable]; exact hno')]
  exact hq Q E d acts
theorem tx_step {tb : Tables} {S target : State} {g : JFrame} {c : Code} {below : List Frame} {vm' : Vm} {h : Nat} (hat : At S g.method c below)
    (hfind : ∀ (Q : Handler → Jvm.Pre) (E : Jvm.CtlPost) (d : Bool) (acts : List Action), Sem.wp (findHandler g a) Q E e d acts ((S.setTop g).pushFrame (.throwing a)) ↔ Q (.found h) d acts (((S.setTop g).pushFrame (.throwing a)).setVm vm'))
    (hrest : Steps tb e below ((S.setVm vm').setTop { g with pc := h, stack := [.ref a] }) target) : Steps tb e below ((S.setTop g).pushFrame (.throwing a)) target := by
  obtain ⟨hgo, hw⟩ := hat.throwing a
  refine Steps.head hgo hw ?_
  have key : ∀ (U : State) (r : List Frame), (∀ (Q : Handler → Jvm.Pre) (E : Jvm.CtlPost) (d : Bool) (acts : List Action), Sem.wp (findHandler g a) Q E e d acts U ↔ Q (.found h) d acts (U.setVm vm')) → (stepThrowing e U a (.java g :: r)).1 = (U.setVm vm').setFrames (.java { g with pc := h, stack := [.ref a] } :: r) := by
    intro U r hU
    simp only [stepThrowing, searchFrame, vmDo]
    generalize hr : Sem.go _ e false [] U = res
    obtain ⟨as, rfl, ha⟩ := Sem.eq_ok_of hr (a := Handler.found h) (s' := U.setVm vm') (acts' := []) (by simp [hU _ _ _ _])
    rfl
  rw [stepThread_throwing (frames_entered hat.top _), key _ _ hfind]
  obtain ⟨g₀, hg⟩ := Option.isSome_iff_exists.mp hat.top
  obtain ⟨r, hr⟩ := State.topJava?_eq_some.mp hg
  have hr' : (S.setVm vm').frames = .java g₀ :: r := hr
  rw [State.setTop_of_frames _ hr'] at hrest
  rw [State.pushFrame, State.setTop_of_frames _ hr]
  rw [hr]
  have e9 : ∀ (U : State) (fs : List Frame), (U.setFrames fs).setVm vm' = (U.setVm vm').setFrames fs := fun _ _ => rfl
  rw [State.setFrames_setFrames, e9, State.setFrames_setFrames]
  exact hrest
end TXE
section TXF
variable {l : Launch} {p : Program} {e : Env} {R : Room} {s : State} {m : MethodId} {args : Array Value} {below : List Frame} {meth : Method} {c : Code} {H : Heap} {locs : List Loc} {cells slots : Nat} {Q : State → Prop}
theorem tx_catch {pc h : Nat} {ls : Array Slot} {rest : List Value} {q : Addr} (hFT : ∀ e : Env, l.admits e → tx_FT e (F0 m pc ls rest) q c.exceptionTable.toList h s H) (kk : W p l e R s m args below meth c H locs cells slots Q (F0 m h ls [.ref q])) :
    tx_W p l e R s m args below meth c H locs cells slots Q (F0 m pc ls rest) q := by
  intro T hT X
  obtain ⟨vm', hW', hf⟩ := hFT e X.admits ((T.setTop (F0 m pc ls rest)).pushFrame (.throwing q)) (by rw [Stand.throwing_vm]; exact X.warmed) (by rw [Stand.throwing_heap]; exact hT)
  obtain ⟨t, a1, b1⟩ := kk (T.setVm vm') hT (X.noted hW')
  refine ⟨t, ?_, b1⟩
  refine tx_step (h := h) (vm' := vm') (g := F0 m pc ls rest) X.here (fun Q E d acts => ?_) a1
  rw [W.findHandler_eq (meth := meth) (code := c) (by rw [Stand.throwing_vm]; exact X.method') X.code]
  exact hf Q E d acts
end TXF
end
section
/-! THE WORDS that every method here stands on: those of the tables that stay when the tables warm up -/
def gt_ok : Cond → Bool
  | .fieldLinkNest .. => true
  | .methodLinkNest .. => true
  | .arrayOver (.array _) => true
  | .castable .. => true
  | .declares _ => true
  | w => goodWord w
def GT : List Cond := lw_tbl.filter gt_ok
theorem gt_pay {args : Array Value} {s : State} {w : Cond} (hw : w ∈ GT) (h : w.before args s = true) (a' : Array Value) (U : State) (hW : s.WarmedH U.vm) : w.before a' U = true := by
  have hg := (List.mem_filter.mp hw).2
  cases w with
  | fieldLinkNest a i b n d h9 => exact va_Nw.use rfl (va_Nw.warmF hW (va_Nw.of rfl h))
  | methodLinkNest a i x h9 => exact va_Nw.use rfl (va_Nw.warmM hW (va_Nw.of rfl h))
  | declares x => exact va_Nw.use rfl (va_Nw.warmD hW (va_Nw.of rfl h))
  | castable a b =>
    obtain ⟨c1, c2, h1, h2, h3⟩ := Cond.castable_spec h
    have e1 : U.vm.findClass a = some c1 := by rw [hW.alike.findClass]; exact h1
    have e2 : U.vm.findClass b = some c2 := by rw [hW.alike.findClass]; exact h2
    have e3 : U.vm.assignable c1 c2 = true := by rw [hW.alike.assignable]; exact h3
    simp [Cond.before, Cond.holds, Cond.value, e1, e2, e3]
  | arrayOver t =>
    cases t with
    | array t9 => exact Jvm.Stand.arrayOver_alikeB hW.alike h
    | _ => exact word_at hW (good_of_word hg) h
  | _ => exact word_at hW (good_of_word hg) h
theorem gt_mem {w : Cond} (i : Nat) (h : tables_1[i]? = some w) (hg : gt_ok w = true) : w ∈ GT :=
  List.mem_filter.mpr ⟨List.mem_append_right _ (List.mem_of_getElem? h), hg⟩
theorem gt_all (L : List Cond) (h : L.all (fun w => decide (w ∈ tables_1)) = true) (hg : L.all gt_ok = true) : ∀ w ∈ L, w ∈ GT := fun w hw =>
  List.mem_filter.mpr ⟨List.mem_append_right _ (of_decide_eq_true (List.all_eq_true.mp h w hw)), List.all_eq_true.mp hg w hw⟩
theorem gt_sel {q : MethodName × Nat} (h : q ∈ lw_privs) : Cond.selects q.1.cls q.1 q.1 ∈ GT :=
  List.mem_filter.mpr ⟨List.mem_append_left _ (List.mem_map.mpr ⟨q, h, rfl⟩), rfl⟩
/-! ONE FORM OF CONTRACT for all methods here: the whole world that is known goes in, the whole world comes out -/
section MWA
variable {p : Program} {l : Launch} {e : Env} {R : Room} {s : State} {m : MethodId} {args : Array Value} {below : List Frame} {meth : Method} {c : Code} {H : Heap} {locs : List Loc} {cells slots : Nat} {Q : State → Prop}
variable {D : va_G} {cl : List vw_C} {tys : List (ClassId × FieldType)} {cc : ByteArray} {pc nL mc ms : Nat} {ls : Array Slot} {rest : List Value} {own : String} {ret : Option FieldType}
def mw_P (D : va_G) (cl : List vw_C) (tys : List (ClassId × FieldType)) (av : List Value) (ws : va_W) (sz : Nat) : Array Value → State → Prop :=
  va_Pc av (fun U => U.heap.size = sz ∧ va_P D cl ws U.heap ∧ va_K D cl tys U ∧ va_D (fun _ => True) ws)
def mw_Q (D : va_G) (cl : List vw_C) (ws : va_W) (sz : Nat) (post : Option Value → va_W → Prop) : Array Value → State → Outcome → State → Prop := fun _ st oc t =>
  (∃ (v : Option Value) (w2 : va_W), oc = .returned v ∧ post v w2 ∧ va_P D cl w2 t.heap ∧ va_D (va_A ws sz) w2) ∧ va_F (va_A ws sz) st t
/-- the contract: from the world ws, with the arguments av, the answer and the world behind it are as 'post' says -/
def MW (l : Launch) (D : va_G) (cl : List vw_C) (tys : List (ClassId × FieldType)) (y : MethodName) (cc : ByteArray) (nL : Nat) (ret : Option FieldType) (rm : Room) (av : List Value) (ws : va_W) (post : Option Value → va_W → Prop) (mc ms : Nat) : Prop :=
  ∀ sz : Nat, Met l y (Cond.code y cc nL ret :: GT) rm (mw_P D cl tys av ws sz) (mw_Q D cl ws sz post) mc ms (va_A ws sz)
/-- what a walk stands on -/
def mw_C (p : Program) (s : State) (m : MethodId) (args : Array Value) (meth : Method) (c : Code) (cc : ByteArray) (nL : Nat) (ret : Option FieldType) (own : String) (D : va_G) (cl : List vw_C) (tys : List (ClassId × FieldType)) : Prop :=
  p.tables.exec = Jvm.exec ∧ c.code = cc ∧ c.maxLocals = nL ∧ meth.sig.returnType = ret ∧ meth.locks = false ∧ s.vm.findClass own = some m.cls ∧ (∀ w ∈ GT, w.before args s = true) ∧ va_K D cl tys s
theorem mw_of {y : MethodName} {rm : Room} {av : List Value} {ws : va_W} {post : Option Value → va_W → Prop} (hy : plainName y.cls = true) (hn : (lg_sl av).length ≤ nL)
    (body : ∀ (p : Program) (e : Env) (s : State) (m : MethodId) (below : List Frame) (meth : Method) (c : Code) (ls : Array Slot), mw_C p s m av.toArray meth c cc nL ret y.cls D cl tys → meth.name = y.name → va_P D cl ws s.heap → va_D (va_A ws s.heap.size) ws → (∀ q : Nat, s.heap.size ≤ q → va_A ws s.heap.size q) → va_S (va_A ws s.heap.size) s.heap s.heap [] → lv_has ls nL (lv_args 0 av) →
      W p l e rm s m av.toArray below meth c s.heap [] 0 0 (MQ below (mw_Q D cl ws s.heap.size post) av.toArray s mc ms (va_A ws s.heap.size)) (F0 m 0 ls [])) :
    MW l D cl tys y cc nL ret rm av ws post mc ms := by
  intro sz
  refine Met.ofW (cc := cc) (maxL := nL) (ret := ret) hy rfl ?_
  intro p e s m args below meth c s₁ B hml hv
  obtain ⟨rfl, hsz, hP, hK, hD0⟩ := hv
  subst hsz
  rw [lg_entry_eq]
  exact body p e s m below meth c _ ⟨B.exec, B.bytes, hml, B.returns, B.notSynchronized, findClass_of_methodNamed B.named, fun w hw => atoms_spec (ws := Cond.code y cc nL ret :: GT) B.pre w (List.mem_cons_of_mem _ hw), hK⟩ (name_of_methodNamed B.named B.method).1 hP hD0.self (fun q h => Or.inr h) va_S.rf (lv_entry av hn)
theorem mw_iret {w0 w2 : va_W} {post : Option Value → va_W → Prop} {v : Int32} (hexec : p.tables.exec = Jvm.exec) (hb : c.code = cc) (hr : meth.sig.returnType = some .int) (hlocks : meth.locks = false)
    (hS : va_S (va_A w0 s.heap.size) s.heap H locs) (hP : va_P D cl w2 H) (hD : va_D (va_A w0 s.heap.size) w2) (hmc : cells ≤ mc) (hms : slots ≤ ms) (hdg : decode cc pc = .ok (.ireturn, 1)) (hq : post (some (.int v)) w2) :
    W p l e R s m args below meth c H locs cells slots (MQ below (mw_Q D cl w0 s.heap.size post) args s mc ms (va_A w0 s.heap.size)) (F0 m pc ls [.int v]) := by
  refine W.widen hmc hms ?_
  exact W.iret (v := v) hexec hb hr (fun t ht hW => ⟨⟨some (.int v), w2, rfl, hq, by rw [ht]; exact hP, hD⟩, hS.F ht⟩) hS.2.2 hdg hlocks
theorem mw_zret {w0 w2 : va_W} {post : Option Value → va_W → Prop} {v : Int32} {ty : FieldType} (hexec : p.tables.exec = Jvm.exec) (hb : c.code = cc) (hr : meth.sig.returnType = some ty) (hlocks : meth.locks = false)
    (hS : va_S (va_A w0 s.heap.size) s.heap H locs) (hP : va_P D cl w2 H) (hD : va_D (va_A w0 s.heap.size) w2) (hmc : cells ≤ mc) (hms : slots ≤ ms) (hdg : decode cc pc = .ok (.ireturn, 1)) (hn : narrow ty (.int v) = .int v) (hq : post (some (.int v)) w2) :
    W p l e R s m args below meth c H locs cells slots (MQ below (mw_Q D cl w0 s.heap.size post) args s mc ms (va_A w0 s.heap.size)) (F0 m pc ls [.int v]) := by
  refine W.widen hmc hms ?_
  exact W.zret hexec hb hr hn (fun t ht hW => ⟨⟨some (.int v), w2, rfl, hq, by rw [ht]; exact hP, hD⟩, hS.F ht⟩) hS.2.2 hdg hlocks
theorem mw_vret {w0 w2 : va_W} {post : Option Value → va_W → Prop} (hexec : p.tables.exec = Jvm.exec) (hb : c.code = cc) (hr : meth.sig.returnType = none) (hlocks : meth.locks = false)
    (hS : va_S (va_A w0 s.heap.size) s.heap H locs) (hP : va_P D cl w2 H) (hD : va_D (va_A w0 s.heap.size) w2) (hmc : cells ≤ mc) (hms : slots ≤ ms) (hdg : decode cc pc = .ok (.return_, 1)) (hq : post none w2) :
    W p l e R s m args below meth c H locs cells slots (MQ below (mw_Q D cl w0 s.heap.size post) args s mc ms (va_A w0 s.heap.size)) (F0 m pc ls []) := by
  refine W.widen hmc hms ?_
  exact W.vret hexec hb hr (fun t ht hW => ⟨⟨none, w2, rfl, hq, by rw [ht]; exact hP, hD⟩, hS.F ht⟩) hS.2.2 hdg hlocks
/-- behind a call -/
theorem mw_back {A0 : Nat → Prop} {H0 : Heap} {w1 : va_W} {post : Option Value → va_W → Prop} {a : Array Value} {st0 : List Value} (hr : va_Run p l e R s m args below meth c H locs cells slots mc ms (F0 m pc ls st0) rest (mw_Q D cl w1 H.size post a) (va_A w1 H.size))
    (hS : va_S A0 H0 H locs) (hD : va_D A0 w1) (hA : ∀ q : Nat, H0.size ≤ q → A0 q)
    (kk : ∀ (v : Option Value) (w2 : va_W) (H1 : Heap) (locs1 : List Loc), post v w2 → va_P D cl w2 H1 → va_D A0 w2 → va_S A0 H0 H1 locs1 → W p l e R s m args below meth c H1 locs1 (cells + mc) (slots + ms) Q (F0 m (pc + 3) ls (v.toList ++ rest))) :
    W p l e R s m args below meth c H locs cells slots Q (F0 m pc ls st0) := by
  have hF : ∀ q : Nat, va_A w1 H.size q → A0 q := by
    intro q h
    rcases h with ⟨k, e9, h⟩ | h
    · exact hD.2 k _ h
    · exact hA q (Nat.le_trans hS.1 h)
  intro T hT X
  obtain ⟨v, st₀, t, T', L, h0, X', hL, e1, e2, ⟨⟨v2, w2, hv, hp, hP2, hD2⟩, hz, hk⟩, st⟩ := hr T hT X
  cases hv
  rw [h0] at hz hk
  obtain ⟨t2, a1, b1⟩ := kk v w2 T'.heap (locs ++ L) hp (by rw [e1]; exact hP2) (hD2.weaken (fun _ q _ h => hF q.1 h))
    ⟨Nat.le_trans hS.1 (by rw [e1]; exact hz), fun q h1 h2 => by rw [e1, hk q (Nat.lt_of_lt_of_le h1 hS.1) (fun z => h2 (hF q z))]; exact hS.2.1 q h1 h2, fun q hq => by
      rcases List.mem_append.mp hq with h | h
      · exact hS.2.2 q h
      · exact hF _ (hL q h)⟩ T' rfl X'
  exact ⟨t2, st t2 a1, b1⟩
/-- what a callee's start needs, out of what the caller has -/
theorem mw_preS {A0 : Nat → Prop} {av : List Value} {w1 : va_W} (hK : va_K D cl tys s) (hP : va_P D cl w1 H) (hD : va_D A0 w1) : PreS s H (mw_P D cl tys av w1 H.size) av :=
  ⟨fun a U g mk q => by obtain ⟨q0, q1, qP, qK, qD⟩ := q; exact ⟨q0, q1, qP, va_K.moved (u := U) (U := U.calling g mk a) (Vm.Alike.refl U.vm) qK, qD⟩, fun U hU hW => ⟨rfl, by rw [hU], by rw [hU]; exact hP, va_K.moved hW.alike hK, hD.weaken (fun _ _ _ _ => trivial)⟩⟩
theorem mw_preV {A0 : Nat → Prop} {b ci k : Nat} {q : vw_C} {fs As : List Value} {w1 : va_W} (hK : va_K D cl tys s) (hP : va_P D cl w1 H) (hD : va_D A0 w1) (hc : cl[ci]? = some q) (he : w1[k]? = some (b, .inr (ci, fs))) : PreV s H q.1 b (mw_P D cl tys (.ref b :: As) w1 H.size) As :=
  ⟨fun a U g mk q => by obtain ⟨q0, q1, qP, qK, qD⟩ := q; exact ⟨q0, q1, qP, va_K.moved (u := U) (U := U.calling g mk a) (Vm.Alike.refl U.vm) qK, qD⟩, va_recv hK hP hc he, fun U hU hW => ⟨rfl, by rw [hU], by rw [hU]; exact hP, va_K.moved hW.alike hK, hD.weaken (fun _ _ _ _ => trivial)⟩⟩
theorem mw_cV {A0 : Nat → Prop} {H0 : Heap} {y : MethodName} {cy : ByteArray} {ny idx : Nat} {rm : Room} {As st0 : List Value} {w1 : va_W} {post : Option Value → va_W → Prop} {ry : Option FieldType} {b ci k : Nat} {q : vw_C} {fs : List Value} (C0 : mw_C p s m args meth c cc nL ret own D cl tys) (hM : MW l D cl tys y cy ny ry rm (.ref b :: As) w1 post mc ms) (hcw : Cond.code y cy ny ry ∈ GT) (hini : Cond.initialized y.cls ∈ GT) (hl : Cond.methodLink own idx y ∈ GT) (hin : Cond.instanceMethod y ∈ GT) (hse : Cond.selects q.1 y y ∈ GT)
    (hd : y.cls ≠ "java/lang/invoke/MethodHandle" ∧ y.cls ≠ "java/lang/invoke/VarHandle" ∧ (parseMethodDescriptor y.desc).map (fun d => d.parameters.length) = some As.length) (hR : rm.frames + 1 ≤ R.frames ∧ 8 + (ny + 11) + rm.locals ≤ R.locals) (hrc : rm.cells = mc) (hrs : rm.slots = ms) (hP : va_P D cl w1 H) (hD : va_D A0 w1) (hS : va_S A0 H0 H locs) (hA : ∀ q : Nat, H0.size ≤ q → A0 q) (hc : cl[ci]? = some q) (he : w1[k]? = some (b, .inr (ci, fs))) (hsz : ls.size = nL) (hW : (rest.map fun v => v.category).sum ≤ 8) (hst : st0 = As.reverse ++ .ref b :: rest) (hdg : decode cc pc = .ok (.invokevirtual idx, 3)) (hf : cells + mc ≤ R.cells ∧ slots + ms ≤ R.slots)
    (kk : ∀ (v : Option Value) (w2 : va_W) (H1 : Heap) (locs1 : List Loc), post v w2 → va_P D cl w2 H1 → va_D A0 w2 → va_S A0 H0 H1 locs1 → W p l e R s m args below meth c H1 locs1 (cells + mc) (slots + ms) Q (F0 m (pc + 3) ls (v.toList ++ rest))) : W p l e R s m args below meth c H locs cells slots Q (F0 m pc ls st0) := by
  obtain ⟨hx, hb, hml, hr, hlocks, hown, hts, hK⟩ := C0
  have pay : ∀ w ∈ (Cond.code y cy ny ry :: GT), ∀ (a' : Array Value) (U : State), s.WarmedH U.vm → w.before a' U = true := fun w hw a' U hU => (List.mem_cons.mp hw).elim (fun e9 => by rw [e9]; exact gt_pay hcw (hts _ hcw) a' U hU) (fun h9 => gt_pay h9 (hts _ h9) a' U hU)
  have hlen : ∀ sig, parseMethodDescriptor y.desc = some sig → As.length = sig.parameters.length := fun sig h => by
    have h2 := hd.2.2
    rw [h] at h2
    exact (Option.some.inj h2).symm
  subst hst
  exact mw_back (va_runV (Ts := GT) (own := own) ⟨hx, hb, hml, hown, hts⟩ (hM H.size) ⟨⟨hrc, hrs, hR.1, hR.2, pay, List.mem_cons_self, hts _ hcw, hts _ hini, ⟨hd.1, hd.2.1⟩, hlen, hts _ hl⟩, hts _ hin, hts _ hse⟩ (mw_preV hK hP hD hc he) rfl rfl hsz rfl (lv_room hW) hdg hf) hS hD hA kk
theorem mw_cVN {A0 : Nat → Prop} {H0 : Heap} {y : MethodName} {cy : ByteArray} {ny idx : Nat} {rm : Room} {As st0 : List Value} {w1 : va_W} {post : Option Value → va_W → Prop} {host : String} {ry : Option FieldType} {b ci k : Nat} {q : vw_C} {fs : List Value} (C0 : mw_C p s m args meth c cc nL ret own D cl tys) (hM : MW l D cl tys y cy ny ry rm (.ref b :: As) w1 post mc ms) (hcw : Cond.code y cy ny ry ∈ GT) (hini : Cond.initialized y.cls ∈ GT) (hl : Cond.methodLinkNest own idx y host ∈ GT) (hin : Cond.instanceMethod y ∈ GT) (hse : Cond.selects q.1 y y ∈ GT)
    (hd : y.cls ≠ "java/lang/invoke/MethodHandle" ∧ y.cls ≠ "java/lang/invoke/VarHandle" ∧ (parseMethodDescriptor y.desc).map (fun d => d.parameters.length) = some As.length) (hR : rm.frames + 1 ≤ R.frames ∧ 8 + (ny + 11) + rm.locals ≤ R.locals) (hrc : rm.cells = mc) (hrs : rm.slots = ms) (hP : va_P D cl w1 H) (hD : va_D A0 w1) (hS : va_S A0 H0 H locs) (hA : ∀ q : Nat, H0.size ≤ q → A0 q) (hc : cl[ci]? = some q) (he : w1[k]? = some (b, .inr (ci, fs))) (hsz : ls.size = nL) (hW : (rest.map fun v => v.category).sum ≤ 8) (hst : st0 = As.reverse ++ .ref b :: rest) (hdg : decode cc pc = .ok (.invokevirtual idx, 3)) (hf : cells + mc ≤ R.cells ∧ slots + ms ≤ R.slots)
    (kk : ∀ (v : Option Value) (w2 : va_W) (H1 : Heap) (locs1 : List Loc), post v w2 → va_P D cl w2 H1 → va_D A0 w2 → va_S A0 H0 H1 locs1 → W p l e R s m args below meth c H1 locs1 (cells + mc) (slots + ms) Q (F0 m (pc + 3) ls (v.toList ++ rest))) : W p l e R s m args below meth c H locs cells slots Q (F0 m pc ls st0) := by
  obtain ⟨hx, hb, hml, hr, hlocks, hown, hts, hK⟩ := C0
  have pay : ∀ w ∈ (Cond.code y cy ny ry :: GT), ∀ (a' : Array Value) (U : State), s.WarmedH U.vm → w.before a' U = true := fun w hw a' U hU => (List.mem_cons.mp hw).elim (fun e9 => by rw [e9]; exact gt_pay hcw (hts _ hcw) a' U hU) (fun h9 => gt_pay h9 (hts _ h9) a' U hU)
  have hlen : ∀ sig, parseMethodDescriptor y.desc = some sig → As.length = sig.parameters.length := fun sig h => by
    have h2 := hd.2.2
    rw [h] at h2
    exact (Option.some.inj h2).symm
  subst hst
  exact mw_back (va_runVN (Ts := GT) (own := own) ⟨hx, hb, hml, hown, hts⟩ (hM H.size) ⟨⟨⟨hrc, hrs, hR.1, hR.2, pay, List.mem_cons_self⟩, hts _ hcw, hts _ hini, ⟨hd.1, hd.2.1⟩, hlen, hts _ hl⟩, hts _ hin, hts _ hse⟩ (mw_preV hK hP hD hc he) rfl rfl hsz rfl (lv_room hW) hdg hf) hS hD hA kk
theorem mw_cS {A0 : Nat → Prop} {H0 : Heap} {y : MethodName} {cy : ByteArray} {ny idx : Nat} {rm : Room} {As st0 : List Value} {w1 : va_W} {post : Option Value → va_W → Prop} {ry : Option FieldType} (C0 : mw_C p s m args meth c cc nL ret own D cl tys) (hM : MW l D cl tys y cy ny ry rm As w1 post mc ms) (hcw : Cond.code y cy ny ry ∈ GT) (hini : Cond.initialized y.cls ∈ GT) (hl : Cond.methodLink own idx y ∈ GT) (hstt : Cond.static y ∈ GT)
    (hd : y.cls ≠ "java/lang/invoke/MethodHandle" ∧ y.cls ≠ "java/lang/invoke/VarHandle" ∧ (parseMethodDescriptor y.desc).map (fun d => d.parameters.length) = some As.length) (hR : rm.frames + 1 ≤ R.frames ∧ 8 + (ny + 11) + rm.locals ≤ R.locals) (hrc : rm.cells = mc) (hrs : rm.slots = ms) (hP : va_P D cl w1 H) (hD : va_D A0 w1) (hS : va_S A0 H0 H locs) (hA : ∀ q : Nat, H0.size ≤ q → A0 q) (hsz : ls.size = nL) (hW : (rest.map fun v => v.category).sum ≤ 8) (hst : st0 = As.reverse ++ rest) (hdg : decode cc pc = .ok (.invokestatic idx, 3)) (hf : cells + mc ≤ R.cells ∧ slots + ms ≤ R.slots)
    (kk : ∀ (v : Option Value) (w2 : va_W) (H1 : Heap) (locs1 : List Loc), post v w2 → va_P D cl w2 H1 → va_D A0 w2 → va_S A0 H0 H1 locs1 → W p l e R s m args below meth c H1 locs1 (cells + mc) (slots + ms) Q (F0 m (pc + 3) ls (v.toList ++ rest))) : W p l e R s m args below meth c H locs cells slots Q (F0 m pc ls st0) := by
  obtain ⟨hx, hb, hml, hr, hlocks, hown, hts, hK⟩ := C0
  have pay : ∀ w ∈ (Cond.code y cy ny ry :: GT), ∀ (a' : Array Value) (U : State), s.WarmedH U.vm → w.before a' U = true := fun w hw a' U hU => (List.mem_cons.mp hw).elim (fun e9 => by rw [e9]; exact gt_pay hcw (hts _ hcw) a' U hU) (fun h9 => gt_pay h9 (hts _ h9) a' U hU)
  have hlen : ∀ sig, parseMethodDescriptor y.desc = some sig → As.length = sig.parameters.length := fun sig h => by
    have h2 := hd.2.2
    rw [h] at h2
    exact (Option.some.inj h2).symm
  subst hst
  exact mw_back (va_runS (Ts := GT) (own := own) ⟨hx, hb, hml, hown, hts⟩ (hM H.size) ⟨⟨hrc, hrs, hR.1, hR.2, pay, List.mem_cons_self, hts _ hcw, hts _ hini, ⟨hd.1, hd.2.1⟩, hlen, hts _ hl⟩, hts _ hstt⟩ (mw_preS hK hP hD) rfl rfl hsz rfl (lv_room hW) hdg hf) hS hD hA kk
theorem mw_cSN {A0 : Nat → Prop} {H0 : Heap} {y : MethodName} {cy : ByteArray} {ny idx : Nat} {rm : Room} {As st0 : List Value} {w1 : va_W} {post : Option Value → va_W → Prop} {host : String} {ry : Option FieldType} (C0 : mw_C p s m args meth c cc nL ret own D cl tys) (hM : MW l D cl tys y cy ny ry rm As w1 post mc ms) (hcw : Cond.code y cy ny ry ∈ GT) (hini : Cond.initialized y.cls ∈ GT) (hl : Cond.methodLinkNest own idx y host ∈ GT) (hstt : Cond.static y ∈ GT)
    (hd : y.cls ≠ "java/lang/invoke/MethodHandle" ∧ y.cls ≠ "java/lang/invoke/VarHandle" ∧ (parseMethodDescriptor y.desc).map (fun d => d.parameters.length) = some As.length) (hR : rm.frames + 1 ≤ R.frames ∧ 8 + (ny + 11) + rm.locals ≤ R.locals) (hrc : rm.cells = mc) (hrs : rm.slots = ms) (hP : va_P D cl w1 H) (hD : va_D A0 w1) (hS : va_S A0 H0 H locs) (hA : ∀ q : Nat, H0.size ≤ q → A0 q) (hsz : ls.size = nL) (hW : (rest.map fun v => v.category).sum ≤ 8) (hst : st0 = As.reverse ++ rest) (hdg : decode cc pc = .ok (.invokestatic idx, 3)) (hf : cells + mc ≤ R.cells ∧ slots + ms ≤ R.slots)
    (kk : ∀ (v : Option Value) (w2 : va_W) (H1 : Heap) (locs1 : List Loc), post v w2 → va_P D cl w2 H1 → va_D A0 w2 → va_S A0 H0 H1 locs1 → W p l e R s m args below meth c H1 locs1 (cells + mc) (slots + ms) Q (F0 m (pc + 3) ls (v.toList ++ rest))) : W p l e R s m args below meth c H locs cells slots Q (F0 m pc ls st0) := by
  obtain ⟨hx, hb, hml, hr, hlocks, hown, hts, hK⟩ := C0
  have pay : ∀ w ∈ (Cond.code y cy ny ry :: GT), ∀ (a' : Array Value) (U : State), s.WarmedH U.vm → w.before a' U = true := fun w hw a' U hU => (List.mem_cons.mp hw).elim (fun e9 => by rw [e9]; exact gt_pay hcw (hts _ hcw) a' U hU) (fun h9 => gt_pay h9 (hts _ h9) a' U hU)
  have hlen : ∀ sig, parseMethodDescriptor y.desc = some sig → As.length = sig.parameters.length := fun sig h => by
    have h2 := hd.2.2
    rw [h] at h2
    exact (Option.some.inj h2).symm
  subst hst
  exact mw_back (va_runSN (Ts := GT) (own := own) ⟨hx, hb, hml, hown, hts⟩ (hM H.size) ⟨⟨⟨hrc, hrs, hR.1, hR.2, pay, List.mem_cons_self⟩, hts _ hcw, hts _ hini, ⟨hd.1, hd.2.1⟩, hlen, hts _ hl⟩, hts _ hstt, trivial⟩ (mw_preS hK hP hD) rfl rfl hsz rfl (lv_room hW) hdg hf) hS hD hA kk
theorem mw_cI {A0 : Nat → Prop} {H0 : Heap} {y : MethodName} {cy : ByteArray} {ny idx : Nat} {rm : Room} {As st0 : List Value} {w1 : va_W} {post : Option Value → va_W → Prop} {b : Nat} (C0 : mw_C p s m args meth c cc nL ret own D cl tys) (hM : MW l D cl tys y cy ny none rm (.ref b :: As) w1 post mc ms) (hcw : Cond.code y cy ny none ∈ GT) (hini : Cond.initialized y.cls ∈ GT) (hl : Cond.methodLink own idx y ∈ GT) (hin : Cond.instanceMethod y ∈ GT) (hnm : y.name = "<init>")
    (hd : y.cls ≠ "java/lang/invoke/MethodHandle" ∧ y.cls ≠ "java/lang/invoke/VarHandle" ∧ (parseMethodDescriptor y.desc).map (fun d => d.parameters.length) = some As.length) (hR : rm.frames + 1 ≤ R.frames ∧ 8 + (ny + 11) + rm.locals ≤ R.locals) (hrc : rm.cells = mc) (hrs : rm.slots = ms) (hP : va_P D cl w1 H) (hD : va_D A0 w1) (hS : va_S A0 H0 H locs) (hA : ∀ q : Nat, H0.size ≤ q → A0 q) (hsz : ls.size = nL) (hW : (rest.map fun v => v.category).sum ≤ 8) (hst : st0 = As.reverse ++ .ref b :: rest) (hdg : decode cc pc = .ok (.invokespecial idx, 3)) (hf : cells + mc ≤ R.cells ∧ slots + ms ≤ R.slots)
    (kk : ∀ (v : Option Value) (w2 : va_W) (H1 : Heap) (locs1 : List Loc), post v w2 → va_P D cl w2 H1 → va_D A0 w2 → va_S A0 H0 H1 locs1 → W p l e R s m args below meth c H1 locs1 (cells + mc) (slots + ms) Q (F0 m (pc + 3) ls (v.toList ++ rest))) : W p l e R s m args below meth c H locs cells slots Q (F0 m pc ls st0) := by
  obtain ⟨hx, hb, hml, hr, hlocks, hown, hts, hK⟩ := C0
  have pay : ∀ w ∈ (Cond.code y cy ny none :: GT), ∀ (a' : Array Value) (U : State), s.WarmedH U.vm → w.before a' U = true := fun w hw a' U hU => (List.mem_cons.mp hw).elim (fun e9 => by rw [e9]; exact gt_pay hcw (hts _ hcw) a' U hU) (fun h9 => gt_pay h9 (hts _ h9) a' U hU)
  have hlen : ∀ sig, parseMethodDescriptor y.desc = some sig → As.length = sig.parameters.length := fun sig h => by
    have h2 := hd.2.2
    rw [h] at h2
    exact (Option.some.inj h2).symm
  subst hst
  exact mw_back (va_runI (Ts := GT) (own := own) ⟨hx, hb, hml, hown, hts⟩ (hM H.size) ⟨⟨hrc, hrs, hR.1, hR.2, pay, List.mem_cons_self, hts _ hcw, hts _ hini, ⟨hd.1, hd.2.1⟩, hlen, hts _ hl⟩, hnm, hts _ hin⟩ (mw_preS hK hP hD) rfl rfl hsz rfl (lv_room hW) hdg hf) hS hD hA kk
theorem mw_cIN {A0 : Nat → Prop} {H0 : Heap} {y : MethodName} {cy : ByteArray} {ny idx : Nat} {rm : Room} {As st0 : List Value} {w1 : va_W} {post : Option Value → va_W → Prop} {host : String} {b : Nat} (C0 : mw_C p s m args meth c cc nL ret own D cl tys) (hM : MW l D cl tys y cy ny none rm (.ref b :: As) w1 post mc ms) (hcw : Cond.code y cy ny none ∈ GT) (hini : Cond.initialized y.cls ∈ GT) (hl : Cond.methodLinkNest own idx y host ∈ GT) (hin : Cond.instanceMethod y ∈ GT) (hnm : y.name = "<init>")
    (hd : y.cls ≠ "java/lang/invoke/MethodHandle" ∧ y.cls ≠ "java/lang/invoke/VarHandle" ∧ (parseMethodDescriptor y.desc).map (fun d => d.parameters.length) = some As.length) (hR : rm.frames + 1 ≤ R.frames ∧ 8 + (ny + 11) + rm.locals ≤ R.locals) (hrc : rm.cells = mc) (hrs : rm.slots = ms) (hP : va_P D cl w1 H) (hD : va_D A0 w1) (hS : va_S A0 H0 H locs) (hA : ∀ q : Nat, H0.size ≤ q → A0 q) (hsz : ls.size = nL) (hW : (rest.map fun v => v.category).sum ≤ 8) (hst : st0 = As.reverse ++ .ref b :: rest) (hdg : decode cc pc = .ok (.invokespecial idx, 3)) (hf : cells + mc ≤ R.cells ∧ slots + ms ≤ R.slots)
    (kk : ∀ (v : Option Value) (w2 : va_W) (H1 : Heap) (locs1 : List Loc), post v w2 → va_P D cl w2 H1 → va_D A0 w2 → va_S A0 H0 H1 locs1 → W p l e R s m args below meth c H1 locs1 (cells + mc) (slots + ms) Q (F0 m (pc + 3) ls (v.toList ++ rest))) : W p l e R s m args below meth c H locs cells slots Q (F0 m pc ls st0) := by
  obtain ⟨hx, hb, hml, hr, hlocks, hown, hts, hK⟩ := C0
  have pay : ∀ w ∈ (Cond.code y cy ny none :: GT), ∀ (a' : Array Value) (U : State), s.WarmedH U.vm → w.before a' U = true := fun w hw a' U hU => (List.mem_cons.mp hw).elim (fun e9 => by rw [e9]; exact gt_pay hcw (hts _ hcw) a' U hU) (fun h9 => gt_pay h9 (hts _ h9) a' U hU)
  have hlen : ∀ sig, parseMethodDescriptor y.desc = some sig → As.length = sig.parameters.length := fun sig h => by
    have h2 := hd.2.2
    rw [h] at h2
    exact (Option.some.inj h2).symm
  subst hst
  exact mw_back (va_runIN (Ts := GT) (own := own) ⟨hx, hb, hml, hown, hts⟩ (hM H.size) ⟨⟨⟨hrc, hrs, hR.1, hR.2, pay, List.mem_cons_self⟩, hts _ hcw, hts _ hini, ⟨hd.1, hd.2.1⟩, hlen, hts _ hl⟩, hnm, hts _ hin⟩ (mw_preS hK hP hD) rfl rfl hsz rfl (lv_room hW) hdg hf) hS hD hA kk
end MWA
end
section
def R_By : String := "WireMessages$Bytes"
def F_By : u_T := fun k => match k with
  | 0 => ("WireMessages$Bytes", "room", "[B", true)
  | _ => ("WireMessages$Bytes", "length", "I", false)
def t_By : Nat → FieldType := fun k => match k with
  | 0 => .array (.byte)
  | _ => .int
theorem n_By : ∀ a, a < 2 → ∀ b, b < 2 → a ≠ b → (F_By a).2.1 ≠ (F_By b).2.1 := by decide +kernel
theorem t_By_ok : ∀ k, k < 2 → parseFieldDescriptor (F_By k).2.2.1 = some (t_By k) := by decide +kernel
def R_En : String := "WireMessages$Ends"
def F_En : u_T := fun k => match k with
  | 0 => ("WireMessages$Ends", "source", "LWireMessages$Bytes;", true)
  | 1 => ("WireMessages$Ends", "newest", "[I", true)
  | 2 => ("WireMessages$Ends", "older", "[I", true)
  | 3 => ("WireMessages$Ends", "marks", "[I", true)
  | 4 => ("WireMessages$Ends", "places", "[I", true)
  | 5 => ("WireMessages$Ends", "sources", "[I", true)
  | _ => ("WireMessages$Ends", "size", "I", false)
def t_En : Nat → FieldType := fun k => match k with
  | 0 => .object "WireMessages$Bytes"
  | 1 => .array (.int)
  | 2 => .array (.int)
  | 3 => .array (.int)
  | 4 => .array (.int)
  | 5 => .array (.int)
  | _ => .int
theorem n_En : ∀ a, a < 7 → ∀ b, b < 7 → a ≠ b → (F_En a).2.1 ≠ (F_En b).2.1 := by decide +kernel
theorem t_En_ok : ∀ k, k < 7 → parseFieldDescriptor (F_En k).2.2.1 = some (t_En k) := by decide +kernel
def R_Ga : String := "WireMessages$Gathered"
def F_Ga : u_T := fun k => match k with
  | 0 => ("WireMessages$Gathered", "bytes", "LWireMessages$Bytes;", true)
  | 1 => ("WireMessages$Gathered", "starts", "[I", true)
  | 2 => ("WireMessages$Gathered", "nameLengths", "[I", true)
  | 3 => ("WireMessages$Gathered", "dataLengths", "[I", true)
  | 4 => ("WireMessages$Gathered", "types", "[I", true)
  | 5 => ("WireMessages$Gathered", "kinds", "[I", true)
  | 6 => ("WireMessages$Gathered", "times", "[I", true)
  | 7 => ("WireMessages$Gathered", "rows", "[[I", true)
  | 8 => ("WireMessages$Gathered", "sizes", "[I", true)
  | 9 => ("WireMessages$Gathered", "id", "I", false)
  | _ => ("WireMessages$Gathered", "flags", "I", false)
def t_Ga : Nat → FieldType := fun k => match k with
  | 0 => .object "WireMessages$Bytes"
  | 1 => .array (.int)
  | 2 => .array (.int)
  | 3 => .array (.int)
  | 4 => .array (.int)
  | 5 => .array (.int)
  | 6 => .array (.int)
  | 7 => .array (.array (.int))
  | 8 => .array (.int)
  | 9 => .int
  | _ => .int
theorem n_Ga : ∀ a, a < 11 → ∀ b, b < 11 → a ≠ b → (F_Ga a).2.1 ≠ (F_Ga b).2.1 := by decide +kernel
theorem t_Ga_ok : ∀ k, k < 11 → parseFieldDescriptor (F_Ga k).2.2.1 = some (t_Ga k) := by decide +kernel
def R_Na : String := "WireMessages$Names"
def F_Na : u_T := fun k => match k with
  | 0 => ("WireMessages$Names", "source", "LWireMessages$Bytes;", true)
  | 1 => ("WireMessages$Names", "labels", "[I", true)
  | _ => ("WireMessages$Names", "otherLabels", "[I", true)
def t_Na : Nat → FieldType := fun k => match k with
  | 0 => .object "WireMessages$Bytes"
  | 1 => .array (.int)
  | _ => .array (.int)
theorem n_Na : ∀ a, a < 3 → ∀ b, b < 3 → a ≠ b → (F_Na a).2.1 ≠ (F_Na b).2.1 := by decide +kernel
theorem t_Na_ok : ∀ k, k < 3 → parseFieldDescriptor (F_Na k).2.2.1 = some (t_Na k) := by decide +kernel
def R_Re : String := "WireMessages$Reader"
def F_Re : u_T := fun k => match k with
  | 0 => ("WireMessages$Reader", "tape", "LWireMessages$Bytes;", true)
  | 1 => ("WireMessages$Reader", "gathered", "LWireMessages$Gathered;", true)
  | 2 => ("WireMessages$Reader", "fault", "I", false)
  | 3 => ("WireMessages$Reader", "faultPlace", "I", false)
  | 4 => ("WireMessages$Reader", "next", "I", false)
  | 5 => ("WireMessages$Reader", "followed", "I", false)
  | 6 => ("WireMessages$Reader", "ownerLength", "I", false)
  | _ => ("WireMessages$Reader", "dataStart", "I", false)
def t_Re : Nat → FieldType := fun k => match k with
  | 0 => .object "WireMessages$Bytes"
  | 1 => .object "WireMessages$Gathered"
  | 2 => .int
  | 3 => .int
  | 4 => .int
  | 5 => .int
  | 6 => .int
  | _ => .int
theorem n_Re : ∀ a, a < 8 → ∀ b, b < 8 → a ≠ b → (F_Re a).2.1 ≠ (F_Re b).2.1 := by decide +kernel
theorem t_Re_ok : ∀ k, k < 8 → parseFieldDescriptor (F_Re k).2.2.1 = some (t_Re k) := by decide +kernel
def R_Wr : String := "WireMessages$Writer"
def F_Wr : u_T := fun k => match k with
  | 0 => ("WireMessages$Writer", "gathered", "LWireMessages$Gathered;", true)
  | 1 => ("WireMessages$Writer", "message", "LWireMessages$Bytes;", true)
  | 2 => ("WireMessages$Writer", "ends", "LWireMessages$Ends;", true)
  | 3 => ("WireMessages$Writer", "labelStarts", "[I", true)
  | 4 => ("WireMessages$Writer", "labelMarks", "[I", true)
  | _ => ("WireMessages$Writer", "pointers", "I", false)
def t_Wr : Nat → FieldType := fun k => match k with
  | 0 => .object "WireMessages$Gathered"
  | 1 => .object "WireMessages$Bytes"
  | 2 => .object "WireMessages$Ends"
  | 3 => .array (.int)
  | 4 => .array (.int)
  | _ => .int
theorem n_Wr : ∀ a, a < 6 → ∀ b, b < 6 → a ≠ b → (F_Wr a).2.1 ≠ (F_Wr b).2.1 := by decide +kernel
theorem t_Wr_ok : ∀ k, k < 6 → parseFieldDescriptor (F_Wr k).2.2.1 = some (t_Wr k) := by decide +kernel
def R_Wm : String := "WireMessages"
def F_Wm : u_T := fun k => match k with
  | 0 => ("WireMessages", "tape", "LWireMessages$Bytes;", true)
  | 1 => ("WireMessages", "gathered", "LWireMessages$Gathered;", true)
  | 2 => ("WireMessages", "reader", "LWireMessages$Reader;", true)
  | 3 => ("WireMessages", "writer", "LWireMessages$Writer;", true)
  | 4 => ("WireMessages", "names", "LWireMessages$Names;", true)
  | 5 => ("WireMessages", "lastFaultPlace", "I", false)
  | _ => ("WireMessages", "lastFollowed", "I", false)
def t_Wm : Nat → FieldType := fun k => match k with
  | 0 => .object "WireMessages$Bytes"
  | 1 => .object "WireMessages$Gathered"
  | 2 => .object "WireMessages$Reader"
  | 3 => .object "WireMessages$Writer"
  | 4 => .object "WireMessages$Names"
  | 5 => .int
  | _ => .int
theorem n_Wm : ∀ a, a < 7 → ∀ b, b < 7 → a ≠ b → (F_Wm a).2.1 ≠ (F_Wm b).2.1 := by decide +kernel
theorem t_Wm_ok : ∀ k, k < 7 → parseFieldDescriptor (F_Wm k).2.2.1 = some (t_Wm k) := by decide +kernel
def R_Mo : String := "WireMessagesModel"
def F_Mo : u_T := fun k => match k with
  | 0 => ("WireMessagesModel", "thrown", "I", false)
  | 1 => ("WireMessagesModel", "tape", "[B", true)
  | 2 => ("WireMessagesModel", "tapes", "I", false)
  | 3 => ("WireMessagesModel", "store", "[B", true)
  | 4 => ("WireMessagesModel", "stored", "I", false)
  | 5 => ("WireMessagesModel", "entries", "I", false)
  | 6 => ("WireMessagesModel", "id", "I", false)
  | 7 => ("WireMessagesModel", "flags", "I", false)
  | 8 => ("WireMessagesModel", "section", "[I", true)
  | 9 => ("WireMessagesModel", "type", "[I", true)
  | 10 => ("WireMessagesModel", "kind", "[I", true)
  | 11 => ("WireMessagesModel", "time", "[I", true)
  | 12 => ("WireMessagesModel", "nameAt", "[I", true)
  | 13 => ("WireMessagesModel", "nameSize", "[I", true)
  | 14 => ("WireMessagesModel", "dataAt", "[I", true)
  | 15 => ("WireMessagesModel", "dataSize", "[I", true)
  | 16 => ("WireMessagesModel", "faultAt", "I", false)
  | 17 => ("WireMessagesModel", "followed", "I", false)
  | 18 => ("WireMessagesModel", "lastFollowed", "I", false)
  | 19 => ("WireMessagesModel", "fault", "I", false)
  | 20 => ("WireMessagesModel", "at", "I", false)
  | 21 => ("WireMessagesModel", "dataBegin", "I", false)
  | 22 => ("WireMessagesModel", "dataEnd", "I", false)
  | 23 => ("WireMessagesModel", "message", "[B", true)
  | 24 => ("WireMessagesModel", "length", "I", false)
  | 25 => ("WireMessagesModel", "pointers", "I", false)
  | 26 => ("WireMessagesModel", "endPlace", "[I", true)
  | 27 => ("WireMessagesModel", "endAt", "[I", true)
  | 28 => ("WireMessagesModel", "ends", "I", false)
  | _ => ("WireMessagesModel", "countsWritten", "[I", true)
def t_Mo : Nat → FieldType := fun k => match k with
  | 0 => .int
  | 1 => .array (.byte)
  | 2 => .int
  | 3 => .array (.byte)
  | 4 => .int
  | 5 => .int
  | 6 => .int
  | 7 => .int
  | 8 => .array (.int)
  | 9 => .array (.int)
  | 10 => .array (.int)
  | 11 => .array (.int)
  | 12 => .array (.int)
  | 13 => .array (.int)
  | 14 => .array (.int)
  | 15 => .array (.int)
  | 16 => .int
  | 17 => .int
  | 18 => .int
  | 19 => .int
  | 20 => .int
  | 21 => .int
  | 22 => .int
  | 23 => .array (.byte)
  | 24 => .int
  | 25 => .int
  | 26 => .array (.int)
  | 27 => .array (.int)
  | 28 => .int
  | _ => .array (.int)
theorem n_Mo : ∀ a, a < 30 → ∀ b, b < 30 → a ≠ b → (F_Mo a).2.1 ≠ (F_Mo b).2.1 := by decide +kernel
theorem t_Mo_ok : ∀ k, k < 30 → parseFieldDescriptor (F_Mo k).2.2.1 = some (t_Mo k) := by decide +kernel
def R_La : String := "WireMessagesLaw"
def R_Ki : String := "WireMessages$Kinds"
abbrev cls9 : List vw_C := [(R_By, F_By, 2), (R_En, F_En, 7), (R_Ga, F_Ga, 11), (R_Na, F_Na, 3), (R_Re, F_Re, 8), (R_Wr, F_Wr, 6), (R_Wm, F_Wm, 7), (R_Mo, F_Mo, 30)]
theorem i_By : ∀ w ∈ u_ws R_By F_By 2, w ∈ GT := gt_all _ (by decide +kernel) (by decide +kernel)
theorem i_En : ∀ w ∈ u_ws R_En F_En 7, w ∈ GT := gt_all _ (by decide +kernel) (by decide +kernel)
theorem i_Ga : ∀ w ∈ u_ws R_Ga F_Ga 11, w ∈ GT := gt_all _ (by decide +kernel) (by decide +kernel)
theorem i_Na : ∀ w ∈ u_ws R_Na F_Na 3, w ∈ GT := gt_all _ (by decide +kernel) (by decide +kernel)
theorem i_Re : ∀ w ∈ u_ws R_Re F_Re 8, w ∈ GT := gt_all _ (by decide +kernel) (by decide +kernel)
theorem i_Wr : ∀ w ∈ u_ws R_Wr F_Wr 6, w ∈ GT := gt_all _ (by decide +kernel) (by decide +kernel)
theorem i_Wm : ∀ w ∈ u_ws R_Wm F_Wm 7, w ∈ GT := gt_all _ (by decide +kernel) (by decide +kernel)
theorem i_Mo : ∀ w ∈ u_ws R_Mo F_Mo 30, w ∈ GT := gt_all _ (by decide +kernel) (by decide +kernel)
abbrev b_Wm_init : ByteArray := prog_1_method_1_code
def y_Wm_init : MethodName := ⟨R_Wm, "<init>", "()V"⟩
abbrev b_By_init : ByteArray := prog_2_method_1_code
def y_By_init : MethodName := ⟨R_By, "<init>", "()V"⟩
abbrev b_Ga_init : ByteArray := prog_4_method_1_code
def y_Ga_init : MethodName := ⟨R_Ga, "<init>", "()V"⟩
abbrev b_Re_init : ByteArray := prog_7_method_1_code
def y_Re_init : MethodName := ⟨R_Re, "<init>", "(LWireMessages$Bytes;LWireMessages$Gathered;)V"⟩
abbrev b_Wr_init : ByteArray := prog_8_method_1_code
def y_Wr_init : MethodName := ⟨R_Wr, "<init>", "(LWireMessages$Gathered;)V"⟩
abbrev b_En_init : ByteArray := prog_3_method_1_code
def y_En_init : MethodName := ⟨R_En, "<init>", "(LWireMessages$Bytes;)V"⟩
abbrev b_Na_init : ByteArray := prog_6_method_1_code
def y_Na_init : MethodName := ⟨R_Na, "<init>", "(LWireMessages$Bytes;)V"⟩
abbrev b_Wm_read : ByteArray := prog_1_method_4_code
def y_Wm_read : MethodName := ⟨R_Wm, "read", "()I"⟩
abbrev b_Re_takeMessage : ByteArray := prog_7_method_3_code
def y_Re_takeMessage : MethodName := ⟨R_Re, "takeMessage", "()I"⟩
abbrev b_By_twoAt : ByteArray := prog_2_method_3_code
def y_By_twoAt : MethodName := ⟨R_By, "twoAt", "(I)I"⟩
abbrev b_By_at : ByteArray := prog_2_method_2_code
def y_By_at : MethodName := ⟨R_By, "at", "(I)I"⟩
abbrev b_Ga_startAnew : ByteArray := prog_4_method_2_code
def y_Ga_startAnew : MethodName := ⟨R_Ga, "startAnew", "(II)V"⟩
abbrev b_Re_fail : ByteArray := prog_7_method_2_code
def y_Re_fail : MethodName := ⟨R_Re, "fail", "(II)Z"⟩
abbrev b_Re_takeQuestion : ByteArray := prog_7_method_4_code
def y_Re_takeQuestion : MethodName := ⟨R_Re, "takeQuestion", "()Z"⟩
abbrev b_Re_takeOwner : ByteArray := prog_7_method_9_code
def y_Re_takeOwner : MethodName := ⟨R_Re, "takeOwner", "(I)Z"⟩
abbrev b_Re_takeName : ByteArray := prog_7_method_10_code
def y_Re_takeName : MethodName := ⟨R_Re, "takeName", "(II)Z"⟩
abbrev b_By_put : ByteArray := prog_2_method_7_code
def y_By_put : MethodName := ⟨R_By, "put", "(I)V"⟩
abbrev b_By_set : ByteArray := prog_2_method_5_code
def y_By_set : MethodName := ⟨R_By, "set", "(II)V"⟩
abbrev b_Re_isGoodPointer : ByteArray := prog_7_method_11_code
def y_Re_isGoodPointer : MethodName := ⟨R_Re, "isGoodPointer", "(IIII)Z"⟩
abbrev b_Re_isGoodLabel : ByteArray := prog_7_method_12_code
def y_Re_isGoodLabel : MethodName := ⟨R_Re, "isGoodLabel", "(IIIII)Z"⟩
abbrev b_By_putFrom : ByteArray := prog_2_method_10_code
def y_By_putFrom : MethodName := ⟨R_By, "putFrom", "(LWireMessages$Bytes;II)V"⟩
abbrev b_Ga_keep : ByteArray := prog_4_method_5_code
def y_Ga_keep : MethodName := ⟨R_Ga, "keep", "(IIIIII)Z"⟩
abbrev b_Ga_hasPlaceIn : ByteArray := prog_4_method_4_code
def y_Ga_hasPlaceIn : MethodName := ⟨R_Ga, "hasPlaceIn", "(I)Z"⟩
abbrev b_Ga_records : ByteArray := prog_4_method_3_code
def y_Ga_records : MethodName := ⟨R_Ga, "records", "()I"⟩
abbrev b_Re_takeRecord : ByteArray := prog_7_method_5_code
def y_Re_takeRecord : MethodName := ⟨R_Re, "takeRecord", "(I)Z"⟩
abbrev b_Re_takeData : ByteArray := prog_7_method_13_code
def y_Re_takeData : MethodName := ⟨R_Re, "takeData", "(III)Z"⟩
abbrev b_Ki_namesIn : ByteArray := prog_5_method_3_code
def y_Ki_namesIn : MethodName := ⟨R_Ki, "namesIn", "(I)I"⟩
abbrev b_Re_takeDataWithNames : ByteArray := prog_7_method_16_code
def y_Re_takeDataWithNames : MethodName := ⟨R_Re, "takeDataWithNames", "(III)Z"⟩
abbrev b_Ki_bytesBeforeNames : ByteArray := prog_5_method_4_code
def y_Ki_bytesBeforeNames : MethodName := ⟨R_Ki, "bytesBeforeNames", "(I)I"⟩
abbrev b_Ki_bytesBehindNames : ByteArray := prog_5_method_5_code
def y_Ki_bytesBehindNames : MethodName := ⟨R_Ki, "bytesBehindNames", "(I)I"⟩
abbrev b_Ki_sharesNames : ByteArray := prog_5_method_6_code
def y_Ki_sharesNames : MethodName := ⟨R_Ki, "sharesNames", "(I)Z"⟩
abbrev b_Re_isAsItsType : ByteArray := prog_7_method_14_code
def y_Re_isAsItsType : MethodName := ⟨R_Re, "isAsItsType", "(III)Z"⟩
abbrev b_Re_areStrings : ByteArray := prog_7_method_15_code
def y_Re_areStrings : MethodName := ⟨R_Re, "areStrings", "(II)Z"⟩
abbrev b_Ki_fixedSize : ByteArray := prog_5_method_2_code
def y_Ki_fixedSize : MethodName := ⟨R_Ki, "fixedSize", "(I)I"⟩
abbrev b_By_fourAt : ByteArray := prog_2_method_4_code
def y_By_fourAt : MethodName := ⟨R_By, "fourAt", "(I)I"⟩
abbrev b_Wm_faultAt : ByteArray := prog_1_method_5_code
def y_Wm_faultAt : MethodName := ⟨R_Wm, "faultAt", "()I"⟩
abbrev b_Wm_begin : ByteArray := prog_1_method_6_code
def y_Wm_begin : MethodName := ⟨R_Wm, "begin", "(II)V"⟩
abbrev b_Wm_count : ByteArray := prog_1_method_17_code
def y_Wm_count : MethodName := ⟨R_Wm, "count", "(I)I"⟩
abbrev b_La_feed : ByteArray := method_3_code
def y_La_feed : MethodName := ⟨R_La, "feed", "(LWireMessages;IIIII[J)I"⟩
abbrev b_Wm_feed : ByteArray := prog_1_method_2_code
def y_Wm_feed : MethodName := ⟨R_Wm, "feed", "(IIIII)I"⟩
abbrev b_By_putFour : ByteArray := prog_2_method_9_code
def y_By_putFour : MethodName := ⟨R_By, "putFour", "(I)V"⟩
abbrev b_By_putTwo : ByteArray := prog_2_method_8_code
def y_By_putTwo : MethodName := ⟨R_By, "putTwo", "(I)V"⟩
abbrev b_La_end : ByteArray := method_4_code
def y_La_end : MethodName := ⟨R_La, "end", "(LWireMessages;I[J)I"⟩
abbrev b_Wm_end : ByteArray := prog_1_method_3_code
def y_Wm_end : MethodName := ⟨R_Wm, "end", "(I)I"⟩
abbrev b_La_question : ByteArray := method_5_code
def y_La_question : MethodName := ⟨R_La, "question", "(LWireMessages;II[J)I"⟩
abbrev b_Wm_question : ByteArray := prog_1_method_7_code
def y_Wm_question : MethodName := ⟨R_Wm, "question", "(II)I"⟩
abbrev b_Re_takeTapeAsName : ByteArray := prog_7_method_6_code
def y_Re_takeTapeAsName : MethodName := ⟨R_Re, "takeTapeAsName", "()Z"⟩
abbrev b_Re_takeBackTo : ByteArray := prog_7_method_8_code
def y_Re_takeBackTo : MethodName := ⟨R_Re, "takeBackTo", "(I)Z"⟩
abbrev b_La_record : ByteArray := method_6_code
def y_La_record : MethodName := ⟨R_La, "record", "(LWireMessages;IIII[J)I"⟩
abbrev b_Wm_record : ByteArray := prog_1_method_8_code
def y_Wm_record : MethodName := ⟨R_Wm, "record", "(IIII)I"⟩
abbrev b_Re_takeTapeAsNameAndData : ByteArray := prog_7_method_7_code
def y_Re_takeTapeAsNameAndData : MethodName := ⟨R_Re, "takeTapeAsNameAndData", "(I)Z"⟩
abbrev b_La_write : ByteArray := method_7_code
def y_La_write : MethodName := ⟨R_La, "write", "(LWireMessages;I[J)I"⟩
abbrev b_Wm_write : ByteArray := prog_1_method_9_code
def y_Wm_write : MethodName := ⟨R_Wm, "write", "(I)I"⟩
abbrev b_Ga_bytesNeverLeftOut : ByteArray := prog_4_method_9_code
def y_Ga_bytesNeverLeftOut : MethodName := ⟨R_Ga, "bytesNeverLeftOut", "()I"⟩
abbrev b_Ga_isNeverLeftOut : ByteArray := prog_4_method_7_code
def y_Ga_isNeverLeftOut : MethodName := ⟨R_Ga, "isNeverLeftOut", "(II)Z"⟩
abbrev b_Ga_lengthUnderRoot : ByteArray := prog_4_method_8_code
def y_Ga_lengthUnderRoot : MethodName := ⟨R_Ga, "lengthUnderRoot", "(I)I"⟩
abbrev b_Wr_compose : ByteArray := prog_8_method_2_code
def y_Wr_compose : MethodName := ⟨R_Wr, "compose", "(I)V"⟩
abbrev b_En_shrinkTo : ByteArray := prog_3_method_4_code
def y_En_shrinkTo : MethodName := ⟨R_En, "shrinkTo", "(I)V"⟩
abbrev b_En_bucketOf : ByteArray := prog_3_method_2_code
def y_En_bucketOf : MethodName := ⟨R_En, "bucketOf", "(I)I"⟩
abbrev b_Wr_putIfFits : ByteArray := prog_8_method_3_code
def y_Wr_putIfFits : MethodName := ⟨R_Wr, "putIfFits", "(III)Z"⟩
abbrev b_Wr_putSharedName : ByteArray := prog_8_method_5_code
def y_Wr_putSharedName : MethodName := ⟨R_Wr, "putSharedName", "(I)I"⟩
abbrev b_Na_findLabels : ByteArray := prog_6_method_2_code
def y_Na_findLabels : MethodName := ⟨R_Na, "findLabels", "(LWireMessages$Bytes;I[I)I"⟩
abbrev b_Wr_markEnds : ByteArray := prog_8_method_6_code
def y_Wr_markEnds : MethodName := ⟨R_Wr, "markEnds", "(II)V"⟩
abbrev b_En_placeOf : ByteArray := prog_3_method_5_code
def y_En_placeOf : MethodName := ⟨R_En, "placeOf", "(III)I"⟩
abbrev b_En_equalBytes : ByteArray := prog_3_method_6_code
def y_En_equalBytes : MethodName := ⟨R_En, "equalBytes", "(III)Z"⟩
abbrev b_En_add : ByteArray := prog_3_method_3_code
def y_En_add : MethodName := ⟨R_En, "add", "(III)V"⟩
abbrev b_Wr_putData : ByteArray := prog_8_method_4_code
def y_Wr_putData : MethodName := ⟨R_Wr, "putData", "(I)V"⟩
abbrev b_By_setTwo : ByteArray := prog_2_method_6_code
def y_By_setTwo : MethodName := ⟨R_By, "setTwo", "(II)V"⟩
abbrev b_La_back : ByteArray := method_8_code
def y_La_back : MethodName := ⟨R_La, "back", "(LWireMessages;II[J)I"⟩
abbrev b_Wm_back : ByteArray := prog_1_method_10_code
def y_Wm_back : MethodName := ⟨R_Wm, "back", "(II)I"⟩
abbrev b_La_written : ByteArray := method_9_code
def y_La_written : MethodName := ⟨R_La, "written", "(LWireMessages;I[J)I"⟩
abbrev b_Wm_written : ByteArray := prog_1_method_11_code
def y_Wm_written : MethodName := ⟨R_Wm, "written", "(I)I"⟩
abbrev b_La_header : ByteArray := method_10_code
def y_La_header : MethodName := ⟨R_La, "header", "(LWireMessages;I[J)I"⟩
abbrev b_Wm_header : ByteArray := prog_1_method_12_code
def y_Wm_header : MethodName := ⟨R_Wm, "header", "(I)I"⟩
abbrev b_La_told : ByteArray := method_11_code
def y_La_told : MethodName := ⟨R_La, "told", "(LWireMessages;III[J)I"⟩
abbrev b_Wm_told : ByteArray := prog_1_method_13_code
def y_Wm_told : MethodName := ⟨R_Wm, "told", "(III)I"⟩
abbrev b_Wm_rowThatIs : ByteArray := prog_1_method_18_code
def y_Wm_rowThatIs : MethodName := ⟨R_Wm, "rowThatIs", "(II)I"⟩
abbrev b_Ga_rowOf : ByteArray := prog_4_method_6_code
def y_Ga_rowOf : MethodName := ⟨R_Ga, "rowOf", "(II)I"⟩
abbrev b_La_byteOf : ByteArray := method_12_code
def y_La_byteOf : MethodName := ⟨R_La, "byteOf", "(LWireMessages;III[J)I"⟩
abbrev b_Wm_byteOf : ByteArray := prog_1_method_14_code
def y_Wm_byteOf : MethodName := ⟨R_Wm, "byteOf", "(III)I"⟩
abbrev b_La_same : ByteArray := method_13_code
def y_La_same : MethodName := ⟨R_La, "same", "(LWireMessages;IIII[J)I"⟩
abbrev b_Wm_same : ByteArray := prog_1_method_15_code
def y_Wm_same : MethodName := ⟨R_Wm, "same", "(IIII)Z"⟩
abbrev b_Na_compare : ByteArray := prog_6_method_3_code
def y_Na_compare : MethodName := ⟨R_Na, "compare", "(II)I"⟩
abbrev b_Na_compareLabels : ByteArray := prog_6_method_4_code
def y_Na_compareLabels : MethodName := ⟨R_Na, "compareLabels", "(II)I"⟩
abbrev b_Na_lowered : ByteArray := prog_6_method_6_code
def y_Na_lowered : MethodName := ⟨R_Na, "lowered", "(I)I"⟩
abbrev b_Na_wayFrom : ByteArray := prog_6_method_5_code
def y_Na_wayFrom : MethodName := ⟨R_Na, "wayFrom", "(II)I"⟩
abbrev b_La_order : ByteArray := method_14_code
def y_La_order : MethodName := ⟨R_La, "order", "(LWireMessages;IIII[J)I"⟩
abbrev b_Wm_order : ByteArray := prog_1_method_16_code
def y_Wm_order : MethodName := ⟨R_Wm, "order", "(IIII)I"⟩
abbrev b_Mo_init : ByteArray := prog_10_method_1_code
def y_Mo_init : MethodName := ⟨R_Mo, "<init>", "()V"⟩
abbrev b_Mo_thrown : ByteArray := prog_10_method_2_code
def y_Mo_thrown : MethodName := ⟨R_Mo, "thrown", "()I"⟩
abbrev b_Mo_read : ByteArray := prog_10_method_16_code
def y_Mo_read : MethodName := ⟨R_Mo, "read", "()I"⟩
abbrev b_Mo_none : ByteArray := prog_10_method_4_code
def y_Mo_none : MethodName := ⟨R_Mo, "none", "()V"⟩
abbrev b_Mo_wrong : ByteArray := prog_10_method_8_code
def y_Mo_wrong : MethodName := ⟨R_Mo, "wrong", "(II)V"⟩
abbrev b_Mo_two : ByteArray := prog_10_method_10_code
def y_Mo_two : MethodName := ⟨R_Mo, "two", "(I)I"⟩
abbrev b_Mo_here : ByteArray := prog_10_method_9_code
def y_Mo_here : MethodName := ⟨R_Mo, "here", "(I)I"⟩
abbrev b_Mo_entry : ByteArray := prog_10_method_15_code
def y_Mo_entry : MethodName := ⟨R_Mo, "entry", "(I)V"⟩
abbrev b_Mo_name : ByteArray := prog_10_method_12_code
def y_Mo_name : MethodName := ⟨R_Mo, "name", "(ZZ)V"⟩
abbrev b_Mo_there : ByteArray := prog_10_method_11_code
def y_Mo_there : MethodName := ⟨R_Mo, "there", "(IIZZ)Z"⟩
abbrev b_Mo_data : ByteArray := prog_10_method_14_code
def y_Mo_data : MethodName := ⟨R_Mo, "data", "(IZ)V"⟩
abbrev b_Mo_bytes : ByteArray := prog_10_method_13_code
def y_Mo_bytes : MethodName := ⟨R_Mo, "bytes", "(I)V"⟩
abbrev b_Mo_countOf : ByteArray := prog_10_method_5_code
def y_Mo_countOf : MethodName := ⟨R_Mo, "countOf", "(I)I"⟩
abbrev b_Mo_records : ByteArray := prog_10_method_6_code
def y_Mo_records : MethodName := ⟨R_Mo, "records", "()I"⟩
abbrev b_Mo_faultAt : ByteArray := prog_10_method_17_code
def y_Mo_faultAt : MethodName := ⟨R_Mo, "faultAt", "()I"⟩
abbrev b_Mo_feed : ByteArray := prog_10_method_18_code
def y_Mo_feed : MethodName := ⟨R_Mo, "feed", "(IIIII)I"⟩
abbrev b_Mo_fail : ByteArray := prog_10_method_3_code
def y_Mo_fail : MethodName := ⟨R_Mo, "fail", "(I)I"⟩
abbrev b_Mo_end : ByteArray := prog_10_method_19_code
def y_Mo_end : MethodName := ⟨R_Mo, "end", "(I)I"⟩
abbrev b_Mo_begin : ByteArray := prog_10_method_20_code
def y_Mo_begin : MethodName := ⟨R_Mo, "begin", "(II)V"⟩
abbrev b_Mo_question : ByteArray := prog_10_method_24_code
def y_Mo_question : MethodName := ⟨R_Mo, "question", "(II)I"⟩
abbrev b_Mo_wholeName : ByteArray := prog_10_method_21_code
def y_Mo_wholeName : MethodName := ⟨R_Mo, "wholeName", "(I)I"⟩
abbrev b_Mo_gathered : ByteArray := prog_10_method_23_code
def y_Mo_gathered : MethodName := ⟨R_Mo, "gathered", "(IIIII)I"⟩
abbrev b_Mo_record : ByteArray := prog_10_method_25_code
def y_Mo_record : MethodName := ⟨R_Mo, "record", "(IIII)I"⟩
abbrev b_Mo_fits : ByteArray := prog_10_method_22_code
def y_Mo_fits : MethodName := ⟨R_Mo, "fits", "(IIZ)Z"⟩
abbrev b_Mo_write : ByteArray := prog_10_method_34_code
def y_Mo_write : MethodName := ⟨R_Mo, "write", "(I)I"⟩
abbrev b_Mo_must : ByteArray := prog_10_method_33_code
def y_Mo_must : MethodName := ⟨R_Mo, "must", "(I)Z"⟩
abbrev b_Mo_putEntry : ByteArray := prog_10_method_32_code
def y_Mo_putEntry : MethodName := ⟨R_Mo, "putEntry", "(I)V"⟩
abbrev b_Mo_putName : ByteArray := prog_10_method_30_code
def y_Mo_putName : MethodName := ⟨R_Mo, "putName", "(IZ)I"⟩
abbrev b_Mo_standing : ByteArray := prog_10_method_29_code
def y_Mo_standing : MethodName := ⟨R_Mo, "standing", "(I)I"⟩
abbrev b_Mo_alike : ByteArray := prog_10_method_28_code
def y_Mo_alike : MethodName := ⟨R_Mo, "alike", "(II)Z"⟩
abbrev b_Mo_put : ByteArray := prog_10_method_26_code
def y_Mo_put : MethodName := ⟨R_Mo, "put", "(I)V"⟩
abbrev b_Mo_putTwo : ByteArray := prog_10_method_27_code
def y_Mo_putTwo : MethodName := ⟨R_Mo, "putTwo", "(I)V"⟩
abbrev b_Mo_putData : ByteArray := prog_10_method_31_code
def y_Mo_putData : MethodName := ⟨R_Mo, "putData", "(I)V"⟩
abbrev b_Mo_back : ByteArray := prog_10_method_35_code
def y_Mo_back : MethodName := ⟨R_Mo, "back", "(II)I"⟩
abbrev b_Mo_written : ByteArray := prog_10_method_36_code
def y_Mo_written : MethodName := ⟨R_Mo, "written", "(I)I"⟩
abbrev b_Mo_header : ByteArray := prog_10_method_37_code
def y_Mo_header : MethodName := ⟨R_Mo, "header", "(I)I"⟩
abbrev b_Mo_told : ByteArray := prog_10_method_38_code
def y_Mo_told : MethodName := ⟨R_Mo, "told", "(III)I"⟩
abbrev b_Mo_place : ByteArray := prog_10_method_7_code
def y_Mo_place : MethodName := ⟨R_Mo, "place", "(II)I"⟩
abbrev b_Mo_byteOf : ByteArray := prog_10_method_39_code
def y_Mo_byteOf : MethodName := ⟨R_Mo, "byteOf", "(III)I"⟩
abbrev b_Mo_same : ByteArray := prog_10_method_41_code
def y_Mo_same : MethodName := ⟨R_Mo, "same", "(IIII)Z"⟩
abbrev b_Mo_low : ByteArray := prog_10_method_40_code
def y_Mo_low : MethodName := ⟨R_Mo, "low", "(I)I"⟩
abbrev b_Mo_order : ByteArray := prog_10_method_45_code
def y_Mo_order : MethodName := ⟨R_Mo, "order", "(IIII)I"⟩
abbrev b_Mo_labels : ByteArray := prog_10_method_42_code
def y_Mo_labels : MethodName := ⟨R_Mo, "labels", "(I)I"⟩
abbrev b_Mo_label : ByteArray := prog_10_method_43_code
def y_Mo_label : MethodName := ⟨R_Mo, "label", "(II)I"⟩
abbrev b_Mo_compared : ByteArray := prog_10_method_44_code
def y_Mo_compared : MethodName := ⟨R_Mo, "compared", "(II)I"⟩
abbrev b_Mo_count : ByteArray := prog_10_method_46_code
def y_Mo_count : MethodName := ⟨R_Mo, "count", "(I)I"⟩
end
section
abbrev ty9 (cB cI cJ cG : ClassId) : List (ClassId × FieldType) := [(cB, .byte), (cI, .int), (cJ, .long), (cG, .array .int)]
abbrev rm9 (d c s : Nat) : Room := { frames := d, cells := c, slots := s, locals := 40 * d }
theorem ws_se {ws : va_W} {k : Nat} {x y : Nat × va_E} (h : ws[k]? = some y) : (ws.set k x)[k]? = some x := by
  rw [List.getElem?_set]; simp [(List.getElem?_eq_some_iff.mp h).1]
theorem ws_sn {ws : va_W} {k j : Nat} {x y : Nat × va_E} (n : k ≠ j) (h : ws[j]? = some y) : (ws.set k x)[j]? = some y := by
  rw [List.getElem?_set, if_neg n]; exact h
theorem ws_same {ws : va_W} {k : Nat} {x : Nat × va_E} (h : ws[k]? = some x) : ws.set k x = ws := by
  refine List.ext_getElem? fun j => ?_
  rw [List.getElem?_set]
  by_cases e : k = j
  · subst e; rw [if_pos rfl, if_pos (List.getElem?_eq_some_iff.mp h).1, h]
  · rw [if_neg e]
/-- a byte of a row of bytes: 0 outside -/
def bt (f : Nat → Int32) (i : Int32) : Int32 := if i < 0 then 0 else if nI 65536 ≤ i then 0 else f i.toNatClampNeg &&& 255
def bset (f : Nat → Int32) (i v : Int32) : Nat → Int32 := if i < 0 then f else if nI 65536 ≤ i then f else upd f i.toNatClampNeg (vp_nar .byte v.toInt8.toInt32)
theorem bt_in {i : Int32} (h1 : ¬ i < 0) (h2 : ¬ nI 65536 ≤ i) : vp_in i 65536 := by
  rcases pk_ix i (n := 65536) (by decide) with h | h | ⟨j, hj, rfl⟩
  · exact absurd h h1
  · exact absurd h h2
  · exact vp_in_nI hj (by decide)
/-- two bytes, four bytes -/
def bt2 (f : Nat → Int32) (i : Int32) : Int32 := bt f i <<< ((8 : Int32) &&& 31) ||| bt f (i + 1)
/-- the world, with other contents of one row of bytes -/
def wB (ws : va_W) (k0 k1 b r : Nat) (cB : ClassId) (n : Int32) (f : Nat → Int32) : va_W := (ws.set k1 (r, .inl (cB, 65536, .inl f))).set k0 (b, .inr (0, [.ref r, .int n]))
theorem wB_0 {ws : va_W} {k0 k1 b r : Nat} {cB : ClassId} {n n' : Int32} {f' : Nat → Int32} (e0 : ws[k0]? = some (b, .inr (0, [.ref r, .int n]))) (h : k1 ≠ k0) : (wB ws k0 k1 b r cB n' f')[k0]? = some (b, .inr (0, [.ref r, .int n'])) := ws_se (ws_sn h e0)
theorem wB_1 {ws : va_W} {k0 k1 b r : Nat} {cB : ClassId} {n' : Int32} {f f' : Nat → Int32} (e1 : ws[k1]? = some (r, .inl (cB, 65536, .inl f))) (h : k0 ≠ k1) : (wB ws k0 k1 b r cB n' f')[k1]? = some (r, .inl (cB, 65536, .inl f')) := ws_sn h (ws_se e1)
theorem wB_j {ws : va_W} {k0 k1 b r j : Nat} {cB : ClassId} {n' : Int32} {f' : Nat → Int32} {y : Nat × va_E} (e : ws[j]? = some y) (h0 : k0 ≠ j) (h1 : k1 ≠ j) : (wB ws k0 k1 b r cB n' f')[j]? = some y := ws_sn h0 (ws_sn h1 e)
theorem wB_wB {ws : va_W} {k0 k1 b r : Nat} {cB : ClassId} {n n' : Int32} {f f' : Nat → Int32} (h : k0 ≠ k1) : wB (wB ws k0 k1 b r cB n f) k0 k1 b r cB n' f' = wB ws k0 k1 b r cB n' f' := by
  unfold wB
  refine List.ext_getElem? fun j => ?_
  simp only [List.getElem?_set, List.length_set]
  by_cases e0 : k0 = j
  · simp [e0]
  · by_cases e1 : k1 = j
    · simp [e0, e1]
    · simp [e0, e1]
theorem wB_set1 {ws : va_W} {k0 k1 b r : Nat} {cB : ClassId} {n : Int32} {f' : Nat → Int32} (e0 : ws[k0]? = some (b, .inr (0, [.ref r, .int n]))) (h : k1 ≠ k0) : ws.set k1 (r, .inl (cB, 65536, .inl f')) = wB ws k0 k1 b r cB n f' := by
  unfold wB
  exact (ws_same (ws_sn h e0)).symm
section MWN
variable {p : Program} {l : Launch} {e : Env} {R : Room} {s : State} {m : MethodId} {args : Array Value} {below : List Frame} {meth : Method} {c : Code} {H : Heap} {locs : List Loc} {cells slots : Nat} {Q : State → Prop}
variable {cc : ByteArray} {pc : Nat} {ls : Array Slot} {rest : List Value} {D : va_G} {cl : List vw_C} {A : Nat → Prop} {tys : List (ClassId × FieldType)} {ws : va_W} {H0 : Heap}
/-- a new array of numbers, all 0: its class is the one that the tables know -/
theorem mw_newa (hexec : p.tables.exec = Jvm.exec) (hb : c.code = cc) {atype : ArrayType} (harr : (Cond.arrayClass (newarray.typeOf atype)).before args s = true) {ty : FieldType} (hty : newarray.typeOf atype = ty) (hra : ∀ q : ClassId, va_RA s q ty → s.vm.findClass ("[" ++ ty.toString) = some q) (hK : va_K D cl tys s) {t : Nat} {cA : ClassId} (ht : tys[t]? = some (cA, ty)) (hP : va_P D cl ws H) (hD : va_D A ws) (hS : va_S A H0 H locs) (hA : ∀ q, H0.size ≤ q → A q)
    {n : Int32} {N' : Nat} {a0 : vp_A} (ha : ∀ cA : ClassId, vp_cell cA a0 = arrV cA N' (fun _ => defaultValue ty)) (hn : ¬ n < 0) (hN : n.toNatClampNeg = N') (hbytes : N' * componentBytes ty ≤ 536870912) (hcells : cells + 1 ≤ R.cells) (hslots : slots + N' ≤ R.slots) (hdg : decode cc pc = .ok (.newarray atype, 2))
    (kk : ∀ (q : Nat) (H1 : Heap), va_P D cl (ws ++ [(q, .inl (cA, a0))]) H1 → va_D A (ws ++ [(q, .inl (cA, a0))]) → va_S A H0 H1 locs →
      W p l e R s m args below meth c H1 locs (cells + 1) (slots + N') Q (F0 m (pc + 2) ls (.ref q :: rest))) : W p l e R s m args below meth c H locs cells slots Q (F0 m pc ls (.int n :: rest)) := by
  refine va_newa hexec hb harr hty hK hP hD hS hA ha hn hN hbytes hcells hslots hdg (fun q cA' H1 hK' hP' hD' hS' => ?_)
  have h1 := hra _ (hK'.2 tys.length (cA', ty) (by simp)).2
  have h2 := hra _ (hK.2 t _ ht).2
  have e9 : cA' = cA := Option.some.inj (h1.symm.trans h2)
  subst e9
  exact kk q H1 hP' hD' hS'
end MWN
/-- what putTwo and putFour put -/
def bp2 (f : Nat → Int32) (n x : Int32) : Nat → Int32 := bset (bset f n (x >>> ((8 : Int32) &&& 31))) (n + 1) x
def bp4 (f : Nat → Int32) (n x : Int32) : Nat → Int32 := bp2 (bp2 f n (x >>> ((16 : Int32) &&& 31))) (n + 1 + 1) x
theorem g_2 : (Cond.initialized "WireMessages$Bytes") ∈ GT := gt_mem 2 (by decide +kernel) rfl
theorem g_35 : (Cond.fieldLink "WireMessages$Bytes" (10 : Nat) "WireMessages$Bytes" "room" "[B") ∈ GT := gt_mem 35 (by decide +kernel) rfl
theorem g_40 : (Cond.fieldLink "WireMessages$Bytes" (27 : Nat) "WireMessages$Bytes" "length" "I") ∈ GT := gt_mem 40 (by decide +kernel) rfl
theorem g_256 : (Cond.methodLink "WireMessages$Bytes" (16 : Nat) ({ cls := "WireMessages$Bytes", name := "at", desc := "(I)I" } : MethodName)) ∈ GT := gt_mem 256 (by decide +kernel) rfl
theorem g_258 : (Cond.instanceMethod ({ cls := "WireMessages$Bytes", name := "at", desc := "(I)I" } : MethodName)) ∈ GT := gt_mem 258 (by decide +kernel) rfl
theorem g_259 : (Cond.code ({ cls := "WireMessages$Bytes", name := "at", desc := "(I)I" } : MethodName) prog_2_method_2_code (2 : Nat) (Option.some FieldType.int)) ∈ GT := gt_mem 259 (by decide +kernel) rfl
theorem g_283 : (Cond.instanceMethod ({ cls := "WireMessages$Bytes", name := "put", desc := "(I)V" } : MethodName)) ∈ GT := gt_mem 283 (by decide +kernel) rfl
theorem g_284 : (Cond.code ({ cls := "WireMessages$Bytes", name := "put", desc := "(I)V" } : MethodName) prog_2_method_7_code (2 : Nat) (Option.none : Option FieldType)) ∈ GT := gt_mem 284 (by decide +kernel) rfl
theorem g_285 : (Cond.methodLink "WireMessages$Bytes" (23 : Nat) ({ cls := "WireMessages$Bytes", name := "set", desc := "(II)V" } : MethodName)) ∈ GT := gt_mem 285 (by decide +kernel) rfl
theorem g_287 : (Cond.instanceMethod ({ cls := "WireMessages$Bytes", name := "set", desc := "(II)V" } : MethodName)) ∈ GT := gt_mem 287 (by decide +kernel) rfl
theorem g_288 : (Cond.code ({ cls := "WireMessages$Bytes", name := "set", desc := "(II)V" } : MethodName) prog_2_method_5_code (3 : Nat) (Option.none : Option FieldType)) ∈ GT := gt_mem 288 (by decide +kernel) rfl
theorem g_453 : (Cond.methodLink "WireMessages$Bytes" (35 : Nat) ({ cls := "WireMessages$Bytes", name := "putTwo", desc := "(I)V" } : MethodName)) ∈ GT := gt_mem 453 (by decide +kernel) rfl
theorem g_455 : (Cond.instanceMethod ({ cls := "WireMessages$Bytes", name := "putTwo", desc := "(I)V" } : MethodName)) ∈ GT := gt_mem 455 (by decide +kernel) rfl
theorem g_456 : (Cond.code ({ cls := "WireMessages$Bytes", name := "putTwo", desc := "(I)V" } : MethodName) prog_2_method_8_code (2 : Nat) (Option.none : Option FieldType)) ∈ GT := gt_mem 456 (by decide +kernel) rfl
theorem g_457 : (Cond.methodLink "WireMessages$Bytes" (31 : Nat) ({ cls := "WireMessages$Bytes", name := "put", desc := "(I)V" } : MethodName)) ∈ GT := gt_mem 457 (by decide +kernel) rfl
theorem gs_By_at : Cond.selects R_By y_By_at y_By_at ∈ GT := gt_sel (q := (⟨"WireMessages$Bytes", "at", "(I)I"⟩, 2)) (by decide +kernel)
theorem gs_By_set : Cond.selects R_By y_By_set y_By_set ∈ GT := gt_sel (q := (⟨"WireMessages$Bytes", "set", "(II)V"⟩, 2)) (by decide +kernel)
theorem gs_By_put : Cond.selects R_By y_By_put y_By_put ∈ GT := gt_sel (q := (⟨"WireMessages$Bytes", "put", "(I)V"⟩, 2)) (by decide +kernel)
theorem gs_By_putTwo : Cond.selects R_By y_By_putTwo y_By_putTwo ∈ GT := gt_sel (q := (⟨"WireMessages$Bytes", "putTwo", "(I)V"⟩, 2)) (by decide +kernel)
theorem d_By_at_0 : decode b_By_at 0 = .ok (.iload_n 1, 1) := by decide +kernel
theorem d_By_at_1 : decode b_By_at 1 = .ok (.ifCond .lt 25, 3) := by decide +kernel
theorem d_By_at_4 : decode b_By_at 4 = .ok (.iload_n 1, 1) := by decide +kernel
theorem d_By_at_5 : decode b_By_at 5 = .ok (.aload_n 0, 1) := by decide +kernel
theorem d_By_at_6 : decode b_By_at 6 = .ok (.getfield 10, 3) := by decide +kernel
theorem d_By_at_9 : decode b_By_at 9 = .ok (.arraylength, 1) := by decide +kernel
theorem d_By_at_10 : decode b_By_at 10 = .ok (.if_icmp .ge 16, 3) := by decide +kernel
theorem d_By_at_13 : decode b_By_at 13 = .ok (.aload_n 0, 1) := by decide +kernel
theorem d_By_at_14 : decode b_By_at 14 = .ok (.getfield 10, 3) := by decide +kernel
theorem d_By_at_17 : decode b_By_at 17 = .ok (.iload_n 1, 1) := by decide +kernel
theorem d_By_at_18 : decode b_By_at 18 = .ok (.baload, 1) := by decide +kernel
theorem d_By_at_19 : decode b_By_at 19 = .ok (.sipush 255, 3) := by decide +kernel
theorem d_By_at_22 : decode b_By_at 22 = .ok (.iand, 1) := by decide +kernel
theorem d_By_at_23 : decode b_By_at 23 = .ok (.goto 4, 3) := by decide +kernel
theorem d_By_at_26 : decode b_By_at 26 = .ok (.iconst 0, 1) := by decide +kernel
theorem d_By_at_27 : decode b_By_at 27 = .ok (.ireturn, 1) := by decide +kernel
theorem d_By_set_0 : decode b_By_set 0 = .ok (.iload_n 1, 1) := by decide +kernel
theorem d_By_set_1 : decode b_By_set 1 = .ok (.ifCond .lt 20, 3) := by decide +kernel
theorem d_By_set_4 : decode b_By_set 4 = .ok (.iload_n 1, 1) := by decide +kernel
theorem d_By_set_5 : decode b_By_set 5 = .ok (.aload_n 0, 1) := by decide +kernel
theorem d_By_set_6 : decode b_By_set 6 = .ok (.getfield 10, 3) := by decide +kernel
theorem d_By_set_9 : decode b_By_set 9 = .ok (.arraylength, 1) := by decide +kernel
theorem d_By_set_10 : decode b_By_set 10 = .ok (.if_icmp .ge 11, 3) := by decide +kernel
theorem d_By_set_13 : decode b_By_set 13 = .ok (.aload_n 0, 1) := by decide +kernel
theorem d_By_set_14 : decode b_By_set 14 = .ok (.getfield 10, 3) := by decide +kernel
theorem d_By_set_17 : decode b_By_set 17 = .ok (.iload_n 1, 1) := by decide +kernel
theorem d_By_set_18 : decode b_By_set 18 = .ok (.iload_n 2, 1) := by decide +kernel
theorem d_By_set_19 : decode b_By_set 19 = .ok (.i2b, 1) := by decide +kernel
theorem d_By_set_20 : decode b_By_set 20 = .ok (.bastore, 1) := by decide +kernel
theorem d_By_set_21 : decode b_By_set 21 = .ok (.return_, 1) := by decide +kernel
theorem d_By_twoAt_0 : decode b_By_twoAt 0 = .ok (.aload_n 0, 1) := by decide +kernel
theorem d_By_twoAt_1 : decode b_By_twoAt 1 = .ok (.iload_n 1, 1) := by decide +kernel
theorem d_By_twoAt_2 : decode b_By_twoAt 2 = .ok (.invokevirtual 16, 3) := by decide +kernel
theorem d_By_twoAt_5 : decode b_By_twoAt 5 = .ok (.bipush 8, 2) := by decide +kernel
theorem d_By_twoAt_7 : decode b_By_twoAt 7 = .ok (.ishl, 1) := by decide +kernel
theorem d_By_twoAt_8 : decode b_By_twoAt 8 = .ok (.aload_n 0, 1) := by decide +kernel
theorem d_By_twoAt_9 : decode b_By_twoAt 9 = .ok (.iload_n 1, 1) := by decide +kernel
theorem d_By_twoAt_10 : decode b_By_twoAt 10 = .ok (.iconst 1, 1) := by decide +kernel
theorem d_By_twoAt_11 : decode b_By_twoAt 11 = .ok (.iadd, 1) := by decide +kernel
theorem d_By_twoAt_12 : decode b_By_twoAt 12 = .ok (.invokevirtual 16, 3) := by decide +kernel
theorem d_By_twoAt_15 : decode b_By_twoAt 15 = .ok (.ior, 1) := by decide +kernel
theorem d_By_twoAt_16 : decode b_By_twoAt 16 = .ok (.ireturn, 1) := by decide +kernel
theorem d_By_setTwo_0 : decode b_By_setTwo 0 = .ok (.aload_n 0, 1) := by decide +kernel
theorem d_By_setTwo_1 : decode b_By_setTwo 1 = .ok (.iload_n 1, 1) := by decide +kernel
theorem d_By_setTwo_2 : decode b_By_setTwo 2 = .ok (.iload_n 2, 1) := by decide +kernel
theorem d_By_setTwo_3 : decode b_By_setTwo 3 = .ok (.bipush 8, 2) := by decide +kernel
theorem d_By_setTwo_5 : decode b_By_setTwo 5 = .ok (.ishr, 1) := by decide +kernel
theorem d_By_setTwo_6 : decode b_By_setTwo 6 = .ok (.invokevirtual 23, 3) := by decide +kernel
theorem d_By_setTwo_9 : decode b_By_setTwo 9 = .ok (.aload_n 0, 1) := by decide +kernel
theorem d_By_setTwo_10 : decode b_By_setTwo 10 = .ok (.iload_n 1, 1) := by decide +kernel
theorem d_By_setTwo_11 : decode b_By_setTwo 11 = .ok (.iconst 1, 1) := by decide +kernel
theorem d_By_setTwo_12 : decode b_By_setTwo 12 = .ok (.iadd, 1) := by decide +kernel
theorem d_By_setTwo_13 : decode b_By_setTwo 13 = .ok (.iload_n 2, 1) := by decide +kernel
theorem d_By_setTwo_14 : decode b_By_setTwo 14 = .ok (.invokevirtual 23, 3) := by decide +kernel
theorem d_By_setTwo_17 : decode b_By_setTwo 17 = .ok (.return_, 1) := by decide +kernel
theorem d_By_put_0 : decode b_By_put 0 = .ok (.aload_n 0, 1) := by decide +kernel
theorem d_By_put_1 : decode b_By_put 1 = .ok (.aload_n 0, 1) := by decide +kernel
theorem d_By_put_2 : decode b_By_put 2 = .ok (.getfield 27, 3) := by decide +kernel
theorem d_By_put_5 : decode b_By_put 5 = .ok (.iload_n 1, 1) := by decide +kernel
theorem d_By_put_6 : decode b_By_put 6 = .ok (.invokevirtual 23, 3) := by decide +kernel
theorem d_By_put_9 : decode b_By_put 9 = .ok (.aload_n 0, 1) := by decide +kernel
theorem d_By_put_10 : decode b_By_put 10 = .ok (.dup, 1) := by decide +kernel
theorem d_By_put_11 : decode b_By_put 11 = .ok (.getfield 27, 3) := by decide +kernel
theorem d_By_put_14 : decode b_By_put 14 = .ok (.iconst 1, 1) := by decide +kernel
theorem d_By_put_15 : decode b_By_put 15 = .ok (.iadd, 1) := by decide +kernel
theorem d_By_put_16 : decode b_By_put 16 = .ok (.putfield 27, 3) := by decide +kernel
theorem d_By_put_19 : decode b_By_put 19 = .ok (.return_, 1) := by decide +kernel
theorem d_By_putTwo_0 : decode b_By_putTwo 0 = .ok (.aload_n 0, 1) := by decide +kernel
theorem d_By_putTwo_1 : decode b_By_putTwo 1 = .ok (.iload_n 1, 1) := by decide +kernel
theorem d_By_putTwo_2 : decode b_By_putTwo 2 = .ok (.bipush 8, 2) := by decide +kernel
theorem d_By_putTwo_4 : decode b_By_putTwo 4 = .ok (.ishr, 1) := by decide +kernel
theorem d_By_putTwo_5 : decode b_By_putTwo 5 = .ok (.invokevirtual 31, 3) := by decide +kernel
theorem d_By_putTwo_8 : decode b_By_putTwo 8 = .ok (.aload_n 0, 1) := by decide +kernel
theorem d_By_putTwo_9 : decode b_By_putTwo 9 = .ok (.iload_n 1, 1) := by decide +kernel
theorem d_By_putTwo_10 : decode b_By_putTwo 10 = .ok (.invokevirtual 31, 3) := by decide +kernel
theorem d_By_putTwo_13 : decode b_By_putTwo 13 = .ok (.return_, 1) := by decide +kernel
theorem d_By_putFour_0 : decode b_By_putFour 0 = .ok (.aload_n 0, 1) := by decide +kernel
theorem d_By_putFour_1 : decode b_By_putFour 1 = .ok (.iload_n 1, 1) := by decide +kernel
theorem d_By_putFour_2 : decode b_By_putFour 2 = .ok (.bipush 16, 2) := by decide +kernel
theorem d_By_putFour_4 : decode b_By_putFour 4 = .ok (.ishr, 1) := by decide +kernel
theorem d_By_putFour_5 : decode b_By_putFour 5 = .ok (.invokevirtual 35, 3) := by decide +kernel
theorem d_By_putFour_8 : decode b_By_putFour 8 = .ok (.aload_n 0, 1) := by decide +kernel
theorem d_By_putFour_9 : decode b_By_putFour 9 = .ok (.iload_n 1, 1) := by decide +kernel
theorem d_By_putFour_10 : decode b_By_putFour 10 = .ok (.invokevirtual 35, 3) := by decide +kernel
theorem d_By_putFour_13 : decode b_By_putFour 13 = .ok (.return_, 1) := by decide +kernel
set_option maxHeartbeats 4000000 in
set_option maxRecDepth 100000 in
/-- Bytes.at(i): the byte there, 0 outside -/
theorem c_By_at (l : Launch) (D9 : va_G) (cB cI cJ cG : ClassId) (ws : va_W) (k0 k1 b r : Nat) (n_k0_k1 : k0 ≠ k1) (n_k1_k0 : k1 ≠ k0) (len : Int32) (f : Nat → Int32) (e0 : ws[k0]? = some (b, .inr (0, [.ref r, .int len]))) (e1 : ws[k1]? = some (r, .inl (cB, 65536, .inl f))) (i : Int32) : MW l D9 cls9 (ty9 cB cI cJ cG) y_By_at b_By_at 2 (some .int) (rm9 0 0 0) [.ref b, .int i] ws (fun v w2 => v = some (.int (bt f i)) ∧ w2 = ws) 0 0 := by
  refine mw_of (by decide) (Nat.le_of_ble_eq_true rfl) ?_
  intro p e s m below meth c ls C0 hin hP hD hA hS hl
  obtain ⟨hx, hb, hml, hr, hlocks, hown, hts, hK⟩ := id C0
  have hl : lv_has ls 2 [(0, .ref b), (1, .int i)] := hl
  refine lv_iload_n hx hb d_By_at_0 rfl (lv_at hl 1 rfl) ?_
  refine lv_if_lt (tgt := 26) hx hb d_By_at_1 (by decide) (fun c1 => ?_) (fun c1 => ?_)
  · refine lv_iconst (v := 0) hx hb d_By_at_26 (by decide) ?_
    exact mw_iret hx hb hr hlocks hS hP hD (by decide) (by decide) d_By_at_27 (⟨by rw [bt, if_pos c1], rfl⟩)
  · refine lv_iload_n hx hb d_By_at_4 rfl (lv_at hl 1 rfl) ?_
    refine lv_aload_n hx hb d_By_at_5 rfl (lv_at hl 0 rfl) ?_
    refine va_get (D := D9) (ci := 0) (C := R_By) (T := F_By) (N := 2) hx hb hts i_By hown hK hP k0 e0 rfl 0 (by decide) (hts _ g_35) (fun _ h9 => h9) rfl d_By_at_6 ?_
    refine va_alen (D := D9) hx hb hK hP k1 0 e1 rfl rfl d_By_at_9 ?_
    refine lv_icmp_ge (tgt := 26) hx hb d_By_at_10 (by decide) (fun c2 => ?_) (fun c2 => ?_)
    · refine lv_iconst (v := 0) hx hb d_By_at_26 (by decide) ?_
      exact mw_iret hx hb hr hlocks hS hP hD (by decide) (by decide) d_By_at_27 (⟨by rw [bt, if_neg c1, if_pos (show nI 65536 ≤ i from c2)], rfl⟩)
    · refine lv_aload_n hx hb d_By_at_13 rfl (lv_at hl 0 rfl) ?_
      refine va_get (D := D9) (ci := 0) (C := R_By) (T := F_By) (N := 2) hx hb hts i_By hown hK hP k0 e0 rfl 0 (by decide) (hts _ g_35) (fun _ h9 => h9) rfl d_By_at_14 ?_
      refine lv_iload_n hx hb d_By_at_17 rfl (lv_at hl 1 rfl) ?_
      refine va_bald (D := D9) hx hb hK hP k1 0 e1 rfl (bt_in c1 c2) d_By_at_18 ?_
      refine lv_sipush (v := 255) hx hb d_By_at_19 (by decide) ?_
      refine lv_iand hx hb d_By_at_22 ?_
      refine lv_goto (tgt := 27) hx hb d_By_at_23 (by decide) ?_
      exact mw_iret hx hb hr hlocks hS hP hD (by decide) (by decide) d_By_at_27 (⟨by rw [bt, if_neg c1, if_neg (show ¬ nI 65536 ≤ i from c2)], rfl⟩)
set_option maxHeartbeats 4000000 in
set_option maxRecDepth 100000 in
/-- Bytes.set(i, x) -/
theorem c_By_set (l : Launch) (D9 : va_G) (cB cI cJ cG : ClassId) (ws : va_W) (k0 k1 b r : Nat) (n_k0_k1 : k0 ≠ k1) (n_k1_k0 : k1 ≠ k0) (len : Int32) (f : Nat → Int32) (e0 : ws[k0]? = some (b, .inr (0, [.ref r, .int len]))) (e1 : ws[k1]? = some (r, .inl (cB, 65536, .inl f))) (i x : Int32) : MW l D9 cls9 (ty9 cB cI cJ cG) y_By_set b_By_set 3 none (rm9 0 0 0) [.ref b, .int i, .int x] ws (fun v w2 => v = none ∧ w2 = ws.set k1 (r, .inl (cB, 65536, .inl (bset f i x)))) 0 0 := by
  refine mw_of (by decide) (Nat.le_of_ble_eq_true rfl) ?_
  intro p e s m below meth c ls C0 hin hP hD hA hS hl
  obtain ⟨hx, hb, hml, hr, hlocks, hown, hts, hK⟩ := id C0
  have hl : lv_has ls 3 [(0, .ref b), (1, .int i), (2, .int x)] := hl
  refine lv_iload_n hx hb d_By_set_0 rfl (lv_at hl 1 rfl) ?_
  refine lv_if_lt (tgt := 21) hx hb d_By_set_1 (by decide) (fun c1 => ?_) (fun c1 => ?_)
  · exact mw_vret hx hb hr hlocks hS hP hD (by decide) (by decide) d_By_set_21 (⟨rfl, by rw [bset, if_pos c1, ws_same e1]⟩)
  · refine lv_iload_n hx hb d_By_set_4 rfl (lv_at hl 1 rfl) ?_
    refine lv_aload_n hx hb d_By_set_5 rfl (lv_at hl 0 rfl) ?_
    refine va_get (D := D9) (ci := 0) (C := R_By) (T := F_By) (N := 2) hx hb hts i_By hown hK hP k0 e0 rfl 0 (by decide) (hts _ g_35) (fun _ h9 => h9) rfl d_By_set_6 ?_
    refine va_alen (D := D9) hx hb hK hP k1 0 e1 rfl rfl d_By_set_9 ?_
    refine lv_icmp_ge (tgt := 21) hx hb d_By_set_10 (by decide) (fun c2 => ?_) (fun c2 => ?_)
    · exact mw_vret hx hb hr hlocks hS hP hD (by decide) (by decide) d_By_set_21 (⟨rfl, by rw [bset, if_neg c1, if_pos (show nI 65536 ≤ i from c2), ws_same e1]⟩)
    · refine lv_aload_n hx hb d_By_set_13 rfl (lv_at hl 0 rfl) ?_
      refine va_get (D := D9) (ci := 0) (C := R_By) (T := F_By) (N := 2) hx hb hts i_By hown hK hP k0 e0 rfl 0 (by decide) (hts _ g_35) (fun _ h9 => h9) rfl d_By_set_14 ?_
      refine lv_iload_n hx hb d_By_set_17 rfl (lv_at hl 1 rfl) ?_
      refine lv_iload_n hx hb d_By_set_18 rfl (lv_at hl 2 rfl) ?_
      refine lv_i2b hx hb d_By_set_19 rfl ?_
      refine va_bast (D := D9) hx hb hK hP hD hS k1 0 e1 rfl (bt_in c1 c2) d_By_set_20 (fun H locs hP hD hS => ?_)
      exact mw_vret hx hb hr hlocks hS hP hD (by decide) (by decide) d_By_set_21 (⟨rfl, by rw [bset, if_neg c1, if_neg (show ¬ nI 65536 ≤ i from c2)]⟩)
set_option maxHeartbeats 4000000 in
set_option maxRecDepth 100000 in
/-- Bytes.twoAt(i) -/
theorem c_By_twoAt (l : Launch) (D9 : va_G) (cB cI cJ cG : ClassId) (ws : va_W) (k0 k1 b r : Nat) (n_k0_k1 : k0 ≠ k1) (n_k1_k0 : k1 ≠ k0) (len : Int32) (f : Nat → Int32) (e0 : ws[k0]? = some (b, .inr (0, [.ref r, .int len]))) (e1 : ws[k1]? = some (r, .inl (cB, 65536, .inl f))) (i : Int32) : MW l D9 cls9 (ty9 cB cI cJ cG) y_By_twoAt b_By_twoAt 2 (some .int) (rm9 1 0 0) [.ref b, .int i] ws (fun v w2 => v = some (.int (bt2 f i)) ∧ w2 = ws) 0 0 := by
  refine mw_of (by decide) (Nat.le_of_ble_eq_true rfl) ?_
  intro p e s m below meth c ls C0 hin hP hD hA hS hl
  obtain ⟨hx, hb, hml, hr, hlocks, hown, hts, hK⟩ := id C0
  have hl : lv_has ls 2 [(0, .ref b), (1, .int i)] := hl
  refine lv_aload_n hx hb d_By_twoAt_0 rfl (lv_at hl 0 rfl) ?_
  refine lv_iload_n hx hb d_By_twoAt_1 rfl (lv_at hl 1 rfl) ?_
  refine mw_cV (ci := 0) (k := k0) C0 (c_By_at l D9 cB cI cJ cG ws k0 k1 b r n_k0_k1 n_k1_k0 len f e0 e1 i) g_259 g_2 g_256 g_258 gs_By_at ⟨by decide +kernel, by decide +kernel, show Option.map (fun d => d.parameters.length) (parseMethodDescriptor y_By_at.desc) = some 1 by decide +kernel⟩ ⟨by decide, by decide⟩ rfl rfl hP hD hS hA rfl e0 hl.1 (Nat.le_of_ble_eq_true rfl) rfl d_By_twoAt_2 ⟨by decide, by decide⟩ (fun v9 w9 H locs hq hP hD hS => ?_)
  obtain ⟨rfl, hw9⟩ := hq
  rw [hw9] at hP hD
  refine lv_bipush (v := 8) hx hb d_By_twoAt_5 (by decide) ?_
  refine lv_ishl hx hb d_By_twoAt_7 ?_
  refine lv_aload_n hx hb d_By_twoAt_8 rfl (lv_at hl 0 rfl) ?_
  refine lv_iload_n hx hb d_By_twoAt_9 rfl (lv_at hl 1 rfl) ?_
  refine lv_iconst (v := 1) hx hb d_By_twoAt_10 (by decide) ?_
  refine lv_iadd hx hb d_By_twoAt_11 ?_
  refine mw_cV (ci := 0) (k := k0) C0 (c_By_at l D9 cB cI cJ cG ws k0 k1 b r n_k0_k1 n_k1_k0 len f e0 e1 (i + 1)) g_259 g_2 g_256 g_258 gs_By_at ⟨by decide +kernel, by decide +kernel, show Option.map (fun d => d.parameters.length) (parseMethodDescriptor y_By_at.desc) = some 1 by decide +kernel⟩ ⟨by decide, by decide⟩ rfl rfl hP hD hS hA rfl e0 hl.1 (Nat.le_of_ble_eq_true rfl) rfl d_By_twoAt_12 ⟨by decide, by decide⟩ (fun v9 w9 H locs hq hP hD hS => ?_)
  obtain ⟨rfl, hw9⟩ := hq
  rw [hw9] at hP hD
  refine lv_ior hx hb d_By_twoAt_15 ?_
  exact mw_iret hx hb hr hlocks hS hP hD (by decide) (by decide) d_By_twoAt_16 (⟨rfl, rfl⟩)
set_option maxHeartbeats 4000000 in
set_option maxRecDepth 100000 in
/-- Bytes.setTwo(i, x) -/
theorem c_By_setTwo (l : Launch) (D9 : va_G) (cB cI cJ cG : ClassId) (ws : va_W) (k0 k1 b r : Nat) (n_k0_k1 : k0 ≠ k1) (n_k1_k0 : k1 ≠ k0) (len : Int32) (f : Nat → Int32) (e0 : ws[k0]? = some (b, .inr (0, [.ref r, .int len]))) (e1 : ws[k1]? = some (r, .inl (cB, 65536, .inl f))) (i x : Int32) : MW l D9 cls9 (ty9 cB cI cJ cG) y_By_setTwo b_By_setTwo 3 none (rm9 1 0 0) [.ref b, .int i, .int x] ws (fun v w2 => v = none ∧ w2 = ws.set k1 (r, .inl (cB, 65536, .inl (bset (bset f i (x >>> ((8 : Int32) &&& 31))) (i + 1) x)))) 0 0 := by
  refine mw_of (by decide) (Nat.le_of_ble_eq_true rfl) ?_
  intro p e s m below meth c ls C0 hin hP hD hA hS hl
  obtain ⟨hx, hb, hml, hr, hlocks, hown, hts, hK⟩ := id C0
  have hl : lv_has ls 3 [(0, .ref b), (1, .int i), (2, .int x)] := hl
  refine lv_aload_n hx hb d_By_setTwo_0 rfl (lv_at hl 0 rfl) ?_
  refine lv_iload_n hx hb d_By_setTwo_1 rfl (lv_at hl 1 rfl) ?_
  refine lv_iload_n hx hb d_By_setTwo_2 rfl (lv_at hl 2 rfl) ?_
  refine lv_bipush (v := 8) hx hb d_By_setTwo_3 (by decide) ?_
  refine lv_ishr hx hb d_By_setTwo_5 ?_
  refine mw_cV (ci := 0) (k := k0) C0 (c_By_set l D9 cB cI cJ cG ws k0 k1 b r n_k0_k1 n_k1_k0 len f e0 e1 i (x >>> ((8 : Int32) &&& 31))) g_288 g_2 g_285 g_287 gs_By_set ⟨by decide +kernel, by decide +kernel, show Option.map (fun d => d.parameters.length) (parseMethodDescriptor y_By_set.desc) = some 2 by decide +kernel⟩ ⟨by decide, by decide⟩ rfl rfl hP hD hS hA rfl e0 hl.1 (Nat.le_of_ble_eq_true rfl) rfl d_By_setTwo_6 ⟨by decide, by decide⟩ (fun v9 w9 H locs hq hP hD hS => ?_)
  obtain ⟨rfl, hw9⟩ := hq
  rw [hw9] at hP hD
  refine lv_aload_n hx hb d_By_setTwo_9 rfl (lv_at hl 0 rfl) ?_
  refine lv_iload_n hx hb d_By_setTwo_10 rfl (lv_at hl 1 rfl) ?_
  refine lv_iconst (v := 1) hx hb d_By_setTwo_11 (by decide) ?_
  refine lv_iadd hx hb d_By_setTwo_12 ?_
  refine lv_iload_n hx hb d_By_setTwo_13 rfl (lv_at hl 2 rfl) ?_
  refine mw_cV (ci := 0) (k := k0) C0 (c_By_set l D9 cB cI cJ cG _ k0 k1 b r n_k0_k1 n_k1_k0 len _ (ws_sn n_k1_k0 e0) (ws_se e1) (i + 1) x) g_288 g_2 g_285 g_287 gs_By_set ⟨by decide +kernel, by decide +kernel, show Option.map (fun d => d.parameters.length) (parseMethodDescriptor y_By_set.desc) = some 2 by decide +kernel⟩ ⟨by decide, by decide⟩ rfl rfl hP hD hS hA rfl (ws_sn n_k1_k0 e0) hl.1 (Nat.le_of_ble_eq_true rfl) rfl d_By_setTwo_14 ⟨by decide, by decide⟩ (fun v9 w9 H locs hq hP hD hS => ?_)
  obtain ⟨rfl, hw9⟩ := hq
  rw [hw9] at hP hD
  exact mw_vret hx hb hr hlocks hS hP hD (by decide) (by decide) d_By_setTwo_17 (⟨rfl, List.set_set ..⟩)
set_option maxHeartbeats 4000000 in
set_option maxRecDepth 100000 in
/-- Bytes.put(x) -/
theorem c_By_put (l : Launch) (D9 : va_G) (cB cI cJ cG : ClassId) (ws : va_W) (k0 k1 b r : Nat) (n_k0_k1 : k0 ≠ k1) (n_k1_k0 : k1 ≠ k0) (len : Int32) (f : Nat → Int32) (e0 : ws[k0]? = some (b, .inr (0, [.ref r, .int len]))) (e1 : ws[k1]? = some (r, .inl (cB, 65536, .inl f))) (x : Int32) : MW l D9 cls9 (ty9 cB cI cJ cG) y_By_put b_By_put 2 none (rm9 1 0 0) [.ref b, .int x] ws (fun v w2 => v = none ∧ w2 = wB ws k0 k1 b r cB (len + 1) (bset f len x)) 0 0 := by
  refine mw_of (by decide) (Nat.le_of_ble_eq_true rfl) ?_
  intro p e s m below meth c ls C0 hin hP hD hA hS hl
  obtain ⟨hx, hb, hml, hr, hlocks, hown, hts, hK⟩ := id C0
  have hl : lv_has ls 2 [(0, .ref b), (1, .int x)] := hl
  refine lv_aload_n hx hb d_By_put_0 rfl (lv_at hl 0 rfl) ?_
  refine lv_aload_n hx hb d_By_put_1 rfl (lv_at hl 0 rfl) ?_
  refine va_get (D := D9) (ci := 0) (C := R_By) (T := F_By) (N := 2) hx hb hts i_By hown hK hP k0 e0 rfl 1 (by decide) (hts _ g_40) (fun _ h9 => h9) rfl d_By_put_2 ?_
  refine lv_iload_n hx hb d_By_put_5 rfl (lv_at hl 1 rfl) ?_
  refine mw_cV (ci := 0) (k := k0) C0 (c_By_set l D9 cB cI cJ cG ws k0 k1 b r n_k0_k1 n_k1_k0 len f e0 e1 len x) g_288 g_2 g_285 g_287 gs_By_set ⟨by decide +kernel, by decide +kernel, show Option.map (fun d => d.parameters.length) (parseMethodDescriptor y_By_set.desc) = some 2 by decide +kernel⟩ ⟨by decide, by decide⟩ rfl rfl hP hD hS hA rfl e0 hl.1 (Nat.le_of_ble_eq_true rfl) rfl d_By_put_6 ⟨by decide, by decide⟩ (fun v9 w9 H locs hq hP hD hS => ?_)
  obtain ⟨rfl, hw9⟩ := hq
  rw [hw9] at hP hD
  refine lv_aload_n hx hb d_By_put_9 rfl (lv_at hl 0 rfl) ?_
  refine lv_dup hx hb d_By_put_10 rfl ?_
  refine va_get (D := D9) (ci := 0) (C := R_By) (T := F_By) (N := 2) hx hb hts i_By hown hK hP k0 (ws_sn n_k1_k0 e0) rfl 1 (by decide) (hts _ g_40) (fun _ h9 => h9) rfl d_By_put_11 ?_
  refine lv_iconst (v := 1) hx hb d_By_put_14 (by decide) ?_
  refine lv_iadd hx hb d_By_put_15 ?_
  refine va_put (D := D9) (ty := .int) (ci := 0) (C := R_By) (T := F_By) (N := 2) hx hb hts i_By t_By t_By_ok n_By hown hK hP hD hS k0 (ws_sn n_k1_k0 e0) rfl 1 (by decide) (hts _ g_40) (fun _ h9 => h9) rfl (by decide +kernel) rfl rfl (Nat.le_of_ble_eq_true rfl) d_By_put_16 (fun H locs hP hD hS => ?_)
  exact mw_vret hx hb hr hlocks hS hP hD (by decide) (by decide) d_By_put_19 (⟨rfl, rfl⟩)
set_option maxHeartbeats 4000000 in
set_option maxRecDepth 100000 in
/-- Bytes.putTwo(x) -/
theorem c_By_putTwo (l : Launch) (D9 : va_G) (cB cI cJ cG : ClassId) (ws : va_W) (k0 k1 b r : Nat) (n_k0_k1 : k0 ≠ k1) (n_k1_k0 : k1 ≠ k0) (len : Int32) (f : Nat → Int32) (e0 : ws[k0]? = some (b, .inr (0, [.ref r, .int len]))) (e1 : ws[k1]? = some (r, .inl (cB, 65536, .inl f))) (x : Int32) : MW l D9 cls9 (ty9 cB cI cJ cG) y_By_putTwo b_By_putTwo 2 none (rm9 2 0 0) [.ref b, .int x] ws (fun v w2 => v = none ∧ w2 = wB ws k0 k1 b r cB (len + 1 + 1) (bp2 f len x)) 0 0 := by
  refine mw_of (by decide) (Nat.le_of_ble_eq_true rfl) ?_
  intro p e s m below meth c ls C0 hin hP hD hA hS hl
  obtain ⟨hx, hb, hml, hr, hlocks, hown, hts, hK⟩ := id C0
  have hl : lv_has ls 2 [(0, .ref b), (1, .int x)] := hl
  refine lv_aload_n hx hb d_By_putTwo_0 rfl (lv_at hl 0 rfl) ?_
  refine lv_iload_n hx hb d_By_putTwo_1 rfl (lv_at hl 1 rfl) ?_
  refine lv_bipush (v := 8) hx hb d_By_putTwo_2 (by decide) ?_
  refine lv_ishr hx hb d_By_putTwo_4 ?_
  refine mw_cV (ci := 0) (k := k0) C0 (c_By_put l D9 cB cI cJ cG ws k0 k1 b r n_k0_k1 n_k1_k0 len f e0 e1 (x >>> ((8 : Int32) &&& 31))) g_284 g_2 g_457 g_283 gs_By_put ⟨by decide +kernel, by decide +kernel, show Option.map (fun d => d.parameters.length) (parseMethodDescriptor y_By_put.desc) = some 1 by decide +kernel⟩ ⟨by decide, by decide⟩ rfl rfl hP hD hS hA rfl e0 hl.1 (Nat.le_of_ble_eq_true rfl) rfl d_By_putTwo_5 ⟨by decide, by decide⟩ (fun v9 w9 H locs hq hP hD hS => ?_)
  obtain ⟨rfl, hw9⟩ := hq
  rw [hw9] at hP hD
  refine lv_aload_n hx hb d_By_putTwo_8 rfl (lv_at hl 0 rfl) ?_
  refine lv_iload_n hx hb d_By_putTwo_9 rfl (lv_at hl 1 rfl) ?_
  refine mw_cV (ci := 0) (k := k0) C0 (c_By_put l D9 cB cI cJ cG _ k0 k1 b r n_k0_k1 n_k1_k0 _ _ (wB_0 e0 n_k1_k0) (wB_1 e1 n_k0_k1) x) g_284 g_2 g_457 g_283 gs_By_put ⟨by decide +kernel, by decide +kernel, show Option.map (fun d => d.parameters.length) (parseMethodDescriptor y_By_put.desc) = some 1 by decide +kernel⟩ ⟨by decide, by decide⟩ rfl rfl hP hD hS hA rfl (wB_0 e0 n_k1_k0) hl.1 (Nat.le_of_ble_eq_true rfl) rfl d_By_putTwo_10 ⟨by decide, by decide⟩ (fun v9 w9 H locs hq hP hD hS => ?_)
  obtain ⟨rfl, hw9⟩ := hq
  rw [hw9] at hP hD
  exact mw_vret hx hb hr hlocks hS hP hD (by decide) (by decide) d_By_putTwo_13 (⟨rfl, wB_wB n_k0_k1⟩)
set_option maxHeartbeats 4000000 in
set_option maxRecDepth 100000 in
/-- Bytes.putFour(x) -/
theorem c_By_putFour (l : Launch) (D9 : va_G) (cB cI cJ cG : ClassId) (ws : va_W) (k0 k1 b r : Nat) (n_k0_k1 : k0 ≠ k1) (n_k1_k0 : k1 ≠ k0) (len : Int32) (f : Nat → Int32) (e0 : ws[k0]? = some (b, .inr (0, [.ref r, .int len]))) (e1 : ws[k1]? = some (r, .inl (cB, 65536, .inl f))) (x : Int32) : MW l D9 cls9 (ty9 cB cI cJ cG) y_By_putFour b_By_putFour 2 none (rm9 3 0 0) [.ref b, .int x] ws (fun v w2 => v = none ∧ w2 = wB ws k0 k1 b r cB (len + 1 + 1 + 1 + 1) (bp4 f len x)) 0 0 := by
  refine mw_of (by decide) (Nat.le_of_ble_eq_true rfl) ?_
  intro p e s m below meth c ls C0 hin hP hD hA hS hl
  obtain ⟨hx, hb, hml, hr, hlocks, hown, hts, hK⟩ := id C0
  have hl : lv_has ls 2 [(0, .ref b), (1, .int x)] := hl
  refine lv_aload_n hx hb d_By_putFour_0 rfl (lv_at hl 0 rfl) ?_
  refine lv_iload_n hx hb d_By_putFour_1 rfl (lv_at hl 1 rfl) ?_
  refine lv_bipush (v := 16) hx hb d_By_putFour_2 (by decide) ?_
  refine lv_ishr hx hb d_By_putFour_4 ?_
  refine mw_cV (ci := 0) (k := k0) C0 (c_By_putTwo l D9 cB cI cJ cG ws k0 k1 b r n_k0_k1 n_k1_k0 len f e0 e1 (x >>> ((16 : Int32) &&& 31))) g_456 g_2 g_453 g_455 gs_By_putTwo ⟨by decide +kernel, by decide +kernel, show Option.map (fun d => d.parameters.length) (parseMethodDescriptor y_By_putTwo.desc) = some 1 by decide +kernel⟩ ⟨by decide, by decide⟩ rfl rfl hP hD hS hA rfl e0 hl.1 (Nat.le_of_ble_eq_true rfl) rfl d_By_putFour_5 ⟨by decide, by decide⟩ (fun v9 w9 H locs hq hP hD hS => ?_)
  obtain ⟨rfl, hw9⟩ := hq
  rw [hw9] at hP hD
  refine lv_aload_n hx hb d_By_putFour_8 rfl (lv_at hl 0 rfl) ?_
  refine lv_iload_n hx hb d_By_putFour_9 rfl (lv_at hl 1 rfl) ?_
  refine mw_cV (ci := 0) (k := k0) C0 (c_By_putTwo l D9 cB cI cJ cG _ k0 k1 b r n_k0_k1 n_k1_k0 _ _ (wB_0 e0 n_k1_k0) (wB_1 e1 n_k0_k1) x) g_456 g_2 g_453 g_455 gs_By_putTwo ⟨by decide +kernel, by decide +kernel, show Option.map (fun d => d.parameters.length) (parseMethodDescriptor y_By_putTwo.desc) = some 1 by decide +kernel⟩ ⟨by decide, by decide⟩ rfl rfl hP hD hS hA rfl (wB_0 e0 n_k1_k0) hl.1 (Nat.le_of_ble_eq_true rfl) rfl d_By_putFour_10 ⟨by decide, by decide⟩ (fun v9 w9 H locs hq hP hD hS => ?_)
  obtain ⟨rfl, hw9⟩ := hq
  rw [hw9] at hP hD
  exact mw_vret hx hb hr hlocks hS hP hD (by decide) (by decide) d_By_putFour_13 (⟨rfl, wB_wB n_k0_k1⟩)
end
section
theorem fm_of {α : Type} {is : List Nat} {ws w1 : List α} (h : is.map (fun i => ws[i]?) = w1.map some) : is.filterMap (fun i => ws[i]?) = w1 := by
  induction is generalizing w1 with
  | nil => cases w1 with
    | nil => rfl
    | cons a t => cases h
  | cons i is ih => cases w1 with
    | nil => cases h
    | cons a t =>
      simp only [List.map_cons, List.cons.injEq] at h
      rw [List.filterMap_cons, h.1]
      simp only
      rw [ih h.2]
section MWF
variable {p : Program} {l : Launch} {e : Env} {R : Room} {s : State} {m : MethodId} {args : Array Value} {below : List Frame} {meth : Method} {c : Code} {H : Heap} {locs : List Loc} {cells slots : Nat} {Q : State → Prop}
variable {D : va_G} {cl : List vw_C} {tys : List (ClassId × FieldType)} {cc : ByteArray} {pc nL mc ms : Nat} {ls : Array Slot} {rest : List Value} {own : String} {ret : Option FieldType}
/-- behind a call that sees a part of the world: the rest is as it was -/
theorem mw_backF {A0 : Nat → Prop} {H0 : Heap} {ws w1 wr : va_W} {post : Option Value → va_W → Prop} {a : Array Value} {st0 : List Value} (hr : va_Run p l e R s m args below meth c H locs cells slots mc ms (F0 m pc ls st0) rest (mw_Q D cl w1 H.size post a) (va_A w1 H.size))
    (hP : va_P D cl ws H) (hD : va_D A0 ws) (hS : va_S A0 H0 H locs) (hA : ∀ q : Nat, H0.size ≤ q → A0 q) (isC isR : List Nat) (hC : isC.map (fun i => ws[i]?) = w1.map some) (hR : isR.map (fun i => ws[i]?) = wr.map some) (hn : va_nd isR = true) (hdis : ∀ i ∈ isR, i ∉ isC)
    (kk : ∀ (v : Option Value) (w2 : va_W) (H1 : Heap) (locs1 : List Loc), post v w2 → va_P D cl (wr ++ w2) H1 → va_D A0 (wr ++ w2) → va_S A0 H0 H1 locs1 → W p l e R s m args below meth c H1 locs1 (cells + mc) (slots + ms) Q (F0 m (pc + 3) ls (v.toList ++ rest))) :
    W p l e R s m args below meth c H locs cells slots Q (F0 m pc ls st0) := by
  have hF : ∀ q : Nat, va_A w1 H.size q → A0 q := va_free (wc := w1) hD hS hA isC hC
  intro T hT X
  obtain ⟨v, st₀, t, T', L, h0, X', hL, e1, e2, ⟨⟨v2, w2, hv, hp, hP2, hD2⟩, hz, hk⟩, st⟩ := hr T hT X
  cases hv
  rw [h0] at hz hk
  obtain ⟨j1, j2⟩ := va_join (wc := w1) (wr := wr) (w1 := w2) (H1 := T'.heap) hP hD isC isR hC hR hn hdis (fun q h1 h2 => by rw [e1]; exact hk q h1 h2) hF (by rw [e1]; exact hP2) hD2
  obtain ⟨t2, a1, b1⟩ := kk v w2 T'.heap (locs ++ L) hp j1 j2
    ⟨Nat.le_trans hS.1 (by rw [e1]; exact hz), fun q h1 h2 => by rw [e1, hk q (Nat.lt_of_lt_of_le h1 hS.1) (fun z => h2 (hF q z))]; exact hS.2.1 q h1 h2, fun q hq => by
      rcases List.mem_append.mp hq with h | h
      · exact hS.2.2 q h
      · exact hF _ (hL q h)⟩ T' rfl X'
  exact ⟨t2, st t2 a1, b1⟩
theorem mf_cV {A0 : Nat → Prop} {H0 : Heap} {y : MethodName} {cy : ByteArray} {ny idx : Nat} {rm : Room} {As st0 : List Value} {ws w1 wr : va_W} {post : Option Value → va_W → Prop} {ry : Option FieldType} {b ci k : Nat} {q : vw_C} {fs : List Value} (C0 : mw_C p s m args meth c cc nL ret own D cl tys) (hM : MW l D cl tys y cy ny ry rm (.ref b :: As) w1 post mc ms) (hcw : Cond.code y cy ny ry ∈ GT) (hini : Cond.initialized y.cls ∈ GT) (hl : Cond.methodLink own idx y ∈ GT) (hin : Cond.instanceMethod y ∈ GT) (hse : Cond.selects q.1 y y ∈ GT)
    (hd : y.cls ≠ "java/lang/invoke/MethodHandle" ∧ y.cls ≠ "java/lang/invoke/VarHandle" ∧ (parseMethodDescriptor y.desc).map (fun d => d.parameters.length) = some As.length) (hR : rm.frames + 1 ≤ R.frames ∧ 8 + (ny + 11) + rm.locals ≤ R.locals) (hrc : rm.cells = mc) (hrs : rm.slots = ms) (hP0 : va_P D cl ws H) (hD0 : va_D A0 ws) (hS : va_S A0 H0 H locs) (hA : ∀ q : Nat, H0.size ≤ q → A0 q) (isC isR : List Nat) (hC : isC.map (fun i => ws[i]?) = w1.map some) (hR9 : isR.map (fun i => ws[i]?) = wr.map some) (hnC : va_nd isC = true) (hn : va_nd isR = true) (hdis : ∀ i ∈ isR, i ∉ isC) (hc : cl[ci]? = some q) (he : w1[k]? = some (b, .inr (ci, fs))) (hsz : ls.size = nL) (hW : (rest.map fun v => v.category).sum ≤ 8) (hst : st0 = As.reverse ++ .ref b :: rest) (hdg : decode cc pc = .ok (.invokevirtual idx, 3)) (hf : cells + mc ≤ R.cells ∧ slots + ms ≤ R.slots)
    (kk : ∀ (v : Option Value) (w2 : va_W) (H1 : Heap) (locs1 : List Loc), post v w2 → va_P D cl (wr ++ w2) H1 → va_D A0 (wr ++ w2) → va_S A0 H0 H1 locs1 → W p l e R s m args below meth c H1 locs1 (cells + mc) (slots + ms) Q (F0 m (pc + 3) ls (v.toList ++ rest))) : W p l e R s m args below meth c H locs cells slots Q (F0 m pc ls st0) := by
  obtain ⟨hx, hb, hml, hr, hlocks, hown, hts, hK⟩ := C0
  have pay : ∀ w ∈ (Cond.code y cy ny ry :: GT), ∀ (a' : Array Value) (U : State), s.WarmedH U.vm → w.before a' U = true := fun w hw a' U hU => (List.mem_cons.mp hw).elim (fun e9 => by rw [e9]; exact gt_pay hcw (hts _ hcw) a' U hU) (fun h9 => gt_pay h9 (hts _ h9) a' U hU)
  have hlen : ∀ sig, parseMethodDescriptor y.desc = some sig → As.length = sig.parameters.length := fun sig h => by
    have h2 := hd.2.2
    rw [h] at h2
    exact (Option.some.inj h2).symm
  subst hst
  have hP : va_P D cl w1 H := hP0.sub isC (by rw [fm_of hC])
  have hD : va_D A0 w1 := hD0.sub isC hnC hC
  exact mw_backF (va_runV (Ts := GT) (own := own) ⟨hx, hb, hml, hown, hts⟩ (hM H.size) ⟨⟨hrc, hrs, hR.1, hR.2, pay, List.mem_cons_self, hts _ hcw, hts _ hini, ⟨hd.1, hd.2.1⟩, hlen, hts _ hl⟩, hts _ hin, hts _ hse⟩ (mw_preV hK hP hD hc he) rfl rfl hsz rfl (lv_room hW) hdg hf) hP0 hD0 hS hA isC isR hC hR9 hn hdis kk
theorem mf_cVN {A0 : Nat → Prop} {H0 : Heap} {y : MethodName} {cy : ByteArray} {ny idx : Nat} {rm : Room} {As st0 : List Value} {ws w1 wr : va_W} {post : Option Value → va_W → Prop} {host : String} {ry : Option FieldType} {b ci k : Nat} {q : vw_C} {fs : List Value} (C0 : mw_C p s m args meth c cc nL ret own D cl tys) (hM : MW l D cl tys y cy ny ry rm (.ref b :: As) w1 post mc ms) (hcw : Cond.code y cy ny ry ∈ GT) (hini : Cond.initialized y.cls ∈ GT) (hl : Cond.methodLinkNest own idx y host ∈ GT) (hin : Cond.instanceMethod y ∈ GT) (hse : Cond.selects q.1 y y ∈ GT)
    (hd : y.cls ≠ "java/lang/invoke/MethodHandle" ∧ y.cls ≠ "java/lang/invoke/VarHandle" ∧ (parseMethodDescriptor y.desc).map (fun d => d.parameters.length) = some As.length) (hR : rm.frames + 1 ≤ R.frames ∧ 8 + (ny + 11) + rm.locals ≤ R.locals) (hrc : rm.cells = mc) (hrs : rm.slots = ms) (hP0 : va_P D cl ws H) (hD0 : va_D A0 ws) (hS : va_S A0 H0 H locs) (hA : ∀ q : Nat, H0.size ≤ q → A0 q) (isC isR : List Nat) (hC : isC.map (fun i => ws[i]?) = w1.map some) (hR9 : isR.map (fun i => ws[i]?) = wr.map some) (hnC : va_nd isC = true) (hn : va_nd isR = true) (hdis : ∀ i ∈ isR, i ∉ isC) (hc : cl[ci]? = some q) (he : w1[k]? = some (b, .inr (ci, fs))) (hsz : ls.size = nL) (hW : (rest.map fun v => v.category).sum ≤ 8) (hst : st0 = As.reverse ++ .ref b :: rest) (hdg : decode cc pc = .ok (.invokevirtual idx, 3)) (hf : cells + mc ≤ R.cells ∧ slots + ms ≤ R.slots)
    (kk : ∀ (v : Option Value) (w2 : va_W) (H1 : Heap) (locs1 : List Loc), post v w2 → va_P D cl (wr ++ w2) H1 → va_D A0 (wr ++ w2) → va_S A0 H0 H1 locs1 → W p l e R s m args below meth c H1 locs1 (cells + mc) (slots + ms) Q (F0 m (pc + 3) ls (v.toList ++ rest))) : W p l e R s m args below meth c H locs cells slots Q (F0 m pc ls st0) := by
  obtain ⟨hx, hb, hml, hr, hlocks, hown, hts, hK⟩ := C0
  have pay : ∀ w ∈ (Cond.code y cy ny ry :: GT), ∀ (a' : Array Value) (U : State), s.WarmedH U.vm → w.before a' U = true := fun w hw a' U hU => (List.mem_cons.mp hw).elim (fun e9 => by rw [e9]; exact gt_pay hcw (hts _ hcw) a' U hU) (fun h9 => gt_pay h9 (hts _ h9) a' U hU)
  have hlen : ∀ sig, parseMethodDescriptor y.desc = some sig → As.length = sig.parameters.length := fun sig h => by
    have h2 := hd.2.2
    rw [h] at h2
    exact (Option.some.inj h2).symm
  subst hst
  have hP : va_P D cl w1 H := hP0.sub isC (by rw [fm_of hC])
  have hD : va_D A0 w1 := hD0.sub isC hnC hC
  exact mw_backF (va_runVN (Ts := GT) (own := own) ⟨hx, hb, hml, hown, hts⟩ (hM H.size) ⟨⟨⟨hrc, hrs, hR.1, hR.2, pay, List.mem_cons_self⟩, hts _ hcw, hts _ hini, ⟨hd.1, hd.2.1⟩, hlen, hts _ hl⟩, hts _ hin, hts _ hse⟩ (mw_preV hK hP hD hc he) rfl rfl hsz rfl (lv_room hW) hdg hf) hP0 hD0 hS hA isC isR hC hR9 hn hdis kk
theorem mf_cS {A0 : Nat → Prop} {H0 : Heap} {y : MethodName} {cy : ByteArray} {ny idx : Nat} {rm : Room} {As st0 : List Value} {ws w1 wr : va_W} {post : Option Value → va_W → Prop} {ry : Option FieldType} (C0 : mw_C p s m args meth c cc nL ret own D cl tys) (hM : MW l D cl tys y cy ny ry rm As w1 post mc ms) (hcw : Cond.code y cy ny ry ∈ GT) (hini : Cond.initialized y.cls ∈ GT) (hl : Cond.methodLink own idx y ∈ GT) (hstt : Cond.static y ∈ GT)
    (hd : y.cls ≠ "java/lang/invoke/MethodHandle" ∧ y.cls ≠ "java/lang/invoke/VarHandle" ∧ (parseMethodDescriptor y.desc).map (fun d => d.parameters.length) = some As.length) (hR : rm.frames + 1 ≤ R.frames ∧ 8 + (ny + 11) + rm.locals ≤ R.locals) (hrc : rm.cells = mc) (hrs : rm.slots = ms) (hP0 : va_P D cl ws H) (hD0 : va_D A0 ws) (hS : va_S A0 H0 H locs) (hA : ∀ q : Nat, H0.size ≤ q → A0 q) (isC isR : List Nat) (hC : isC.map (fun i => ws[i]?) = w1.map some) (hR9 : isR.map (fun i => ws[i]?) = wr.map some) (hnC : va_nd isC = true) (hn : va_nd isR = true) (hdis : ∀ i ∈ isR, i ∉ isC) (hsz : ls.size = nL) (hW : (rest.map fun v => v.category).sum ≤ 8) (hst : st0 = As.reverse ++ rest) (hdg : decode cc pc = .ok (.invokestatic idx, 3)) (hf : cells + mc ≤ R.cells ∧ slots + ms ≤ R.slots)
    (kk : ∀ (v : Option Value) (w2 : va_W) (H1 : Heap) (locs1 : List Loc), post v w2 → va_P D cl (wr ++ w2) H1 → va_D A0 (wr ++ w2) → va_S A0 H0 H1 locs1 → W p l e R s m args below meth c H1 locs1 (cells + mc) (slots + ms) Q (F0 m (pc + 3) ls (v.toList ++ rest))) : W p l e R s m args below meth c H locs cells slots Q (F0 m pc ls st0) := by
  obtain ⟨hx, hb, hml, hr, hlocks, hown, hts, hK⟩ := C0
  have pay : ∀ w ∈ (Cond.code y cy ny ry :: GT), ∀ (a' : Array Value) (U : State), s.WarmedH U.vm → w.before a' U = true := fun w hw a' U hU => (List.mem_cons.mp hw).elim (fun e9 => by rw [e9]; exact gt_pay hcw (hts _ hcw) a' U hU) (fun h9 => gt_pay h9 (hts _ h9) a' U hU)
  have hlen : ∀ sig, parseMethodDescriptor y.desc = some sig → As.length = sig.parameters.length := fun sig h => by
    have h2 := hd.2.2
    rw [h] at h2
    exact (Option.some.inj h2).symm
  subst hst
  have hP : va_P D cl w1 H := hP0.sub isC (by rw [fm_of hC])
  have hD : va_D A0 w1 := hD0.sub isC hnC hC
  exact mw_backF (va_runS (Ts := GT) (own := own) ⟨hx, hb, hml, hown, hts⟩ (hM H.size) ⟨⟨hrc, hrs, hR.1, hR.2, pay, List.mem_cons_self, hts _ hcw, hts _ hini, ⟨hd.1, hd.2.1⟩, hlen, hts _ hl⟩, hts _ hstt⟩ (mw_preS hK hP hD) rfl rfl hsz rfl (lv_room hW) hdg hf) hP0 hD0 hS hA isC isR hC hR9 hn hdis kk
theorem mf_cSN {A0 : Nat → Prop} {H0 : Heap} {y : MethodName} {cy : ByteArray} {ny idx : Nat} {rm : Room} {As st0 : List Value} {ws w1 wr : va_W} {post : Option Value → va_W → Prop} {host : String} {ry : Option FieldType} (C0 : mw_C p s m args meth c cc nL ret own D cl tys) (hM : MW l D cl tys y cy ny ry rm As w1 post mc ms) (hcw : Cond.code y cy ny ry ∈ GT) (hini : Cond.initialized y.cls ∈ GT) (hl : Cond.methodLinkNest own idx y host ∈ GT) (hstt : Cond.static y ∈ GT)
    (hd : y.cls ≠ "java/lang/invoke/MethodHandle" ∧ y.cls ≠ "java/lang/invoke/VarHandle" ∧ (parseMethodDescriptor y.desc).map (fun d => d.parameters.length) = some As.length) (hR : rm.frames + 1 ≤ R.frames ∧ 8 + (ny + 11) + rm.locals ≤ R.locals) (hrc : rm.cells = mc) (hrs : rm.slots = ms) (hP0 : va_P D cl ws H) (hD0 : va_D A0 ws) (hS : va_S A0 H0 H locs) (hA : ∀ q : Nat, H0.size ≤ q → A0 q) (isC isR : List Nat) (hC : isC.map (fun i => ws[i]?) = w1.map some) (hR9 : isR.map (fun i => ws[i]?) = wr.map some) (hnC : va_nd isC = true) (hn : va_nd isR = true) (hdis : ∀ i ∈ isR, i ∉ isC) (hsz : ls.size = nL) (hW : (rest.map fun v => v.category).sum ≤ 8) (hst : st0 = As.reverse ++ rest) (hdg : decode cc pc = .ok (.invokestatic idx, 3)) (hf : cells + mc ≤ R.cells ∧ slots + ms ≤ R.slots)
    (kk : ∀ (v : Option Value) (w2 : va_W) (H1 : Heap) (locs1 : List Loc), post v w2 → va_P D cl (wr ++ w2) H1 → va_D A0 (wr ++ w2) → va_S A0 H0 H1 locs1 → W p l e R s m args below meth c H1 locs1 (cells + mc) (slots + ms) Q (F0 m (pc + 3) ls (v.toList ++ rest))) : W p l e R s m args below meth c H locs cells slots Q (F0 m pc ls st0) := by
  obtain ⟨hx, hb, hml, hr, hlocks, hown, hts, hK⟩ := C0
  have pay : ∀ w ∈ (Cond.code y cy ny ry :: GT), ∀ (a' : Array Value) (U : State), s.WarmedH U.vm → w.before a' U = true := fun w hw a' U hU => (List.mem_cons.mp hw).elim (fun e9 => by rw [e9]; exact gt_pay hcw (hts _ hcw) a' U hU) (fun h9 => gt_pay h9 (hts _ h9) a' U hU)
  have hlen : ∀ sig, parseMethodDescriptor y.desc = some sig → As.length = sig.parameters.length := fun sig h => by
    have h2 := hd.2.2
    rw [h] at h2
    exact (Option.some.inj h2).symm
  subst hst
  have hP : va_P D cl w1 H := hP0.sub isC (by rw [fm_of hC])
  have hD : va_D A0 w1 := hD0.sub isC hnC hC
  exact mw_backF (va_runSN (Ts := GT) (own := own) ⟨hx, hb, hml, hown, hts⟩ (hM H.size) ⟨⟨⟨hrc, hrs, hR.1, hR.2, pay, List.mem_cons_self⟩, hts _ hcw, hts _ hini, ⟨hd.1, hd.2.1⟩, hlen, hts _ hl⟩, hts _ hstt, trivial⟩ (mw_preS hK hP hD) rfl rfl hsz rfl (lv_room hW) hdg hf) hP0 hD0 hS hA isC isR hC hR9 hn hdis kk
theorem mf_cI {A0 : Nat → Prop} {H0 : Heap} {y : MethodName} {cy : ByteArray} {ny idx : Nat} {rm : Room} {As st0 : List Value} {ws w1 wr : va_W} {post : Option Value → va_W → Prop} {b : Nat} (C0 : mw_C p s m args meth c cc nL ret own D cl tys) (hM : MW l D cl tys y cy ny none rm (.ref b :: As) w1 post mc ms) (hcw : Cond.code y cy ny none ∈ GT) (hini : Cond.initialized y.cls ∈ GT) (hl : Cond.methodLink own idx y ∈ GT) (hin : Cond.instanceMethod y ∈ GT) (hnm : y.name = "<init>")
    (hd : y.cls ≠ "java/lang/invoke/MethodHandle" ∧ y.cls ≠ "java/lang/invoke/VarHandle" ∧ (parseMethodDescriptor y.desc).map (fun d => d.parameters.length) = some As.length) (hR : rm.frames + 1 ≤ R.frames ∧ 8 + (ny + 11) + rm.locals ≤ R.locals) (hrc : rm.cells = mc) (hrs : rm.slots = ms) (hP0 : va_P D cl ws H) (hD0 : va_D A0 ws) (hS : va_S A0 H0 H locs) (hA : ∀ q : Nat, H0.size ≤ q → A0 q) (isC isR : List Nat) (hC : isC.map (fun i => ws[i]?) = w1.map some) (hR9 : isR.map (fun i => ws[i]?) = wr.map some) (hnC : va_nd isC = true) (hn : va_nd isR = true) (hdis : ∀ i ∈ isR, i ∉ isC) (hsz : ls.size = nL) (hW : (rest.map fun v => v.category).sum ≤ 8) (hst : st0 = As.reverse ++ .ref b :: rest) (hdg : decode cc pc = .ok (.invokespecial idx, 3)) (hf : cells + mc ≤ R.cells ∧ slots + ms ≤ R.slots)
    (kk : ∀ (v : Option Value) (w2 : va_W) (H1 : Heap) (locs1 : List Loc), post v w2 → va_P D cl (wr ++ w2) H1 → va_D A0 (wr ++ w2) → va_S A0 H0 H1 locs1 → W p l e R s m args below meth c H1 locs1 (cells + mc) (slots + ms) Q (F0 m (pc + 3) ls (v.toList ++ rest))) : W p l e R s m args below meth c H locs cells slots Q (F0 m pc ls st0) := by
  obtain ⟨hx, hb, hml, hr, hlocks, hown, hts, hK⟩ := C0
  have pay : ∀ w ∈ (Cond.code y cy ny none :: GT), ∀ (a' : Array Value) (U : State), s.WarmedH U.vm → w.before a' U = true := fun w hw a' U hU => (List.mem_cons.mp hw).elim (fun e9 => by rw [e9]; exact gt_pay hcw (hts _ hcw) a' U hU) (fun h9 => gt_pay h9 (hts _ h9) a' U hU)
  have hlen : ∀ sig, parseMethodDescriptor y.desc = some sig → As.length = sig.parameters.length := fun sig h => by
    have h2 := hd.2.2
    rw [h] at h2
    exact (Option.some.inj h2).symm
  subst hst
  have hP : va_P D cl w1 H := hP0.sub isC (by rw [fm_of hC])
  have hD : va_D A0 w1 := hD0.sub isC hnC hC
  exact mw_backF (va_runI (Ts := GT) (own := own) ⟨hx, hb, hml, hown, hts⟩ (hM H.size) ⟨⟨hrc, hrs, hR.1, hR.2, pay, List.mem_cons_self, hts _ hcw, hts _ hini, ⟨hd.1, hd.2.1⟩, hlen, hts _ hl⟩, hnm, hts _ hin⟩ (mw_preS hK hP hD) rfl rfl hsz rfl (lv_room hW) hdg hf) hP0 hD0 hS hA isC isR hC hR9 hn hdis kk
theorem mf_cIN {A0 : Nat → Prop} {H0 : Heap} {y : MethodName} {cy : ByteArray} {ny idx : Nat} {rm : Room} {As st0 : List Value} {ws w1 wr : va_W} {post : Option Value → va_W → Prop} {host : String} {b : Nat} (C0 : mw_C p s m args meth c cc nL ret own D cl tys) (hM : MW l D cl tys y cy ny none rm (.ref b :: As) w1 post mc ms) (hcw : Cond.code y cy ny none ∈ GT) (hini : Cond.initialized y.cls ∈ GT) (hl : Cond.methodLinkNest own idx y host ∈ GT) (hin : Cond.instanceMethod y ∈ GT) (hnm : y.name = "<init>")
    (hd : y.cls ≠ "java/lang/invoke/MethodHandle" ∧ y.cls ≠ "java/lang/invoke/VarHandle" ∧ (parseMethodDescriptor y.desc).map (fun d => d.parameters.length) = some As.length) (hR : rm.frames + 1 ≤ R.frames ∧ 8 + (ny + 11) + rm.locals ≤ R.locals) (hrc : rm.cells = mc) (hrs : rm.slots = ms) (hP0 : va_P D cl ws H) (hD0 : va_D A0 ws) (hS : va_S A0 H0 H locs) (hA : ∀ q : Nat, H0.size ≤ q → A0 q) (isC isR : List Nat) (hC : isC.map (fun i => ws[i]?) = w1.map some) (hR9 : isR.map (fun i => ws[i]?) = wr.map some) (hnC : va_nd isC = true) (hn : va_nd isR = true) (hdis : ∀ i ∈ isR, i ∉ isC) (hsz : ls.size = nL) (hW : (rest.map fun v => v.category).sum ≤ 8) (hst : st0 = As.reverse ++ .ref b :: rest) (hdg : decode cc pc = .ok (.invokespecial idx, 3)) (hf : cells + mc ≤ R.cells ∧ slots + ms ≤ R.slots)
    (kk : ∀ (v : Option Value) (w2 : va_W) (H1 : Heap) (locs1 : List Loc), post v w2 → va_P D cl (wr ++ w2) H1 → va_D A0 (wr ++ w2) → va_S A0 H0 H1 locs1 → W p l e R s m args below meth c H1 locs1 (cells + mc) (slots + ms) Q (F0 m (pc + 3) ls (v.toList ++ rest))) : W p l e R s m args below meth c H locs cells slots Q (F0 m pc ls st0) := by
  obtain ⟨hx, hb, hml, hr, hlocks, hown, hts, hK⟩ := C0
  have pay : ∀ w ∈ (Cond.code y cy ny none :: GT), ∀ (a' : Array Value) (U : State), s.WarmedH U.vm → w.before a' U = true := fun w hw a' U hU => (List.mem_cons.mp hw).elim (fun e9 => by rw [e9]; exact gt_pay hcw (hts _ hcw) a' U hU) (fun h9 => gt_pay h9 (hts _ h9) a' U hU)
  have hlen : ∀ sig, parseMethodDescriptor y.desc = some sig → As.length = sig.parameters.length := fun sig h => by
    have h2 := hd.2.2
    rw [h] at h2
    exact (Option.some.inj h2).symm
  subst hst
  have hP : va_P D cl w1 H := hP0.sub isC (by rw [fm_of hC])
  have hD : va_D A0 w1 := hD0.sub isC hnC hC
  exact mw_backF (va_runIN (Ts := GT) (own := own) ⟨hx, hb, hml, hown, hts⟩ (hM H.size) ⟨⟨⟨hrc, hrs, hR.1, hR.2, pay, List.mem_cons_self⟩, hts _ hcw, hts _ hini, ⟨hd.1, hd.2.1⟩, hlen, hts _ hl⟩, hnm, hts _ hin⟩ (mw_preS hK hP hD) rfl rfl hsz rfl (lv_room hW) hdg hf) hP0 hD0 hS hA isC isR hC hR9 hn hdis kk
end MWF
end
section
section MWG
variable {p : Program} {l : Launch} {e : Env} {R : Room} {s : State} {m : MethodId} {args : Array Value} {below : List Frame} {meth : Method} {c : Code} {H : Heap} {locs : List Loc} {cells slots : Nat} {Q : State → Prop}
variable {cc : ByteArray} {pc : Nat} {ls : Array Slot} {rest : List Value} {D : va_G} {cl : List vw_C} {A : Nat → Prop} {tys : List (ClassId × FieldType)} {ws : va_W} {H0 : Heap}
/-- the cells that 'new int[4][k]' makes, from the address q on -/
def mw_grid (cG cI : ClassId) (q : Nat) : va_W := [(q, .inl (cG, 4, .inr (.inr (.inr (.inr (fun i => if i < 4 then some (q + 1 + i) else none)))))), (q + 1, .inl (cI, 1000, .inl (fun _ => 0))), (q + 2, .inl (cI, 1000, .inl (fun _ => 0))), (q + 3, .inl (cI, 1000, .inl (fun _ => 0))), (q + 4, .inl (cI, 1000, .inl (fun _ => 0)))]
theorem mw_outer (k : ClassId) (h0 : Nat) : Jvm.Free.Multi.outerC k 4 h0 4 = vp_cell k (4, .inr (.inr (.inr (.inr (fun i => if i < 4 then some (h0 + 1 + i) else none))))) := by
  have key : ∀ (a b : Cell), a.cls = b.cls → a.vm = b.vm → a.monitor = b.monitor → a.hash = b.hash → a.slots = b.slots → a = b := by
    intro a b h1 h2 h3 h4 h5
    cases a; cases b
    simp_all
  refine key _ _ rfl rfl rfl rfl ?_
  refine Array.ext_getElem? fun j => ?_
  rw [vp_cell_q]
  by_cases hj : j < 4
  · rw [Jvm.Free.Multi.outerC_slot k 4 h0 4 j hj, arrV_read _ _ hj]
    simp [hj, va_rf]
  · have h1 : (Jvm.Free.Multi.outerC k 4 h0 4).slots.size = 4 := (Jvm.Free.Multi.outerC_facts k 4 h0 4).2.2
    rw [Array.getElem?_eq_none (by omega), Array.getElem?_eq_none (by rw [arrV_size]; omega)]
theorem mw_mna (hexec : p.tables.exec = Jvm.exec) (hb : c.code = cc) {own : String} {index : Nat} {cG cI : ClassId} {tG tI : Nat} (hown : s.vm.findClass own = some m.cls) (hclink : (Cond.classLink own index "[[I").before args s = true) (hover : (Cond.arrayOver (.array .int)).before args s = true) (harr : (Cond.arrayClass .int).before args s = true)
    (hK : va_K D cl tys s) (htG : tys[tG]? = some (cG, .array .int)) (htI : tys[tI]? = some (cI, .int)) (hP : va_P D cl ws H) (hD : va_D A ws) (hS : va_S A H0 H locs) (hA : ∀ q, H0.size ≤ q → A q) (hcells : cells + (1 + 4) ≤ R.cells) (hslots : slots + (4 + 4 * 1000) ≤ R.slots) (hdg : decode cc pc = .ok (.multianewarray index 2, 4))
    (kk : ∀ (q : Nat) (H1 : Heap), va_P D cl (ws ++ mw_grid cG cI q) H1 → va_D A (ws ++ mw_grid cG cI q) → va_S A H0 H1 locs → W p l e R s m args below meth c H1 locs (cells + 1 + 4) (slots + 4 + 4 * 1000) Q (F0 m (pc + 4) ls (.ref q :: rest))) :
    W p l e R s m args below meth c H locs cells slots Q (F0 m pc ls (.int 1000 :: .int 4 :: rest)) := by
  intro T hT Xs
  obtain ⟨vm₁, cA, comp, -, fA, fC, hO, -, X', step⟩ := Xs.multianewarray2F hexec (ty := .int) hown hclink hover harr (g := F0 m pc ls (.int 1000 :: .int 4 :: rest)) rfl (by rw [hb]; exact hdg) rfl (by decide) (by decide) (by decide) (by decide) (by decide) (by decide) (by decide) hcells hslots
  have eG : cA = cG := Option.some.inj (fA.symm.trans (hK.2 tG _ htG).2)
  have eI : comp = cI := Option.some.inj (fC.symm.trans (hK.2 tI _ htI).2)
  subst eG; subst eI
  have n4 : (4 : Int32).toNatClampNeg = 4 := by decide
  have n1000 : (1000 : Int32).toNatClampNeg = 1000 := by decide
  rw [n4, n1000] at X' step
  generalize hF : Jvm.Free.Multi.fill (T.setVm vm₁) cA comp 4 1000 (defaultValue .int) 4 = F at X' step
  have hTh : (T.setVm vm₁).heap = H := hT
  obtain ⟨f1, f2, -, -⟩ := Jvm.Free.Multi.fill_facts (T.setVm vm₁) cA comp 4 1000 (defaultValue .int) 4
  rw [hF, hTh] at f1 f2
  have hold : ∀ x : Nat, x < H.size → F.heap[x]? = H[x]? := fun x hx => by
    have := Jvm.Free.Multi.fill_old (T.setVm vm₁) cA comp 4 1000 (defaultValue .int) (a := x) (by rw [hTh]; exact hx) 4
    rw [hF, hTh] at this
    exact this
  have hrow : ∀ j : Nat, j < 4 → F.heap[H.size + 1 + j]? = some (vp_cell comp (1000, .inl (fun _ => 0))) := fun j hj => by
    have := Jvm.Free.Multi.fill_inner (T.setVm vm₁) cA comp 4 1000 (defaultValue .int) 4 j hj
    rw [hF, hTh] at this
    rw [this, vp_cell_i, ← arrV_new]
    rfl
  rw [mw_outer] at f2
  have hP1 : va_P D cl (ws ++ mw_grid cA comp H.size) F.heap := (hP.kept (fun k9 x hx => hold x.1 ((hP k9 x hx).lt))).app (fun k x hx => by
    match k, hx with
    | 0, hx => cases hx; exact f2
    | 1, hx => cases hx; exact hrow 0 (by decide)
    | 2, hx => cases hx; exact hrow 1 (by decide)
    | 3, hx => cases hx; exact hrow 2 (by decide)
    | 4, hx => cases hx; exact hrow 3 (by decide)
    | k + 5, hx => simp [mw_grid] at hx)
  have hlt : ∀ (k : Nat) (x : Nat × va_E), ws[k]? = some x → x.1 < H.size := fun k x hx => (hP k x hx).lt
  have hg : ∀ (k : Nat) (x : Nat × va_E), (mw_grid cA comp H.size)[k]? = some x → x.1 = H.size + k := fun k x hx => by
    match k, hx with
    | 0, hx => cases hx; rfl
    | 1, hx => cases hx; rfl
    | 2, hx => cases hx; rfl
    | 3, hx => cases hx; rfl
    | 4, hx => cases hx; rfl
    | k + 5, hx => simp [mw_grid] at hx
  have hD1 : va_D A (ws ++ mw_grid cA comp H.size) := va_D.app hD ⟨fun i j x y hx hy hxy => by have := hg i x hx; have := hg j y hy; omega, fun k x hx => hA _ (by have := hg k x hx; have := hS.1; omega)⟩ (fun i j x y hx hy hxy => by have := hlt i x hx; have := hg j y hy; omega)
  obtain ⟨t, a1, b1⟩ := kk H.size F.heap hP1 hD1 ⟨by have := hS.1; omega, fun q h1 h2 => (hold q (Nat.lt_of_lt_of_le h1 hS.1)).trans (hS.2.1 q h1 h2), hS.2.2⟩ F rfl X'
  refine ⟨t, step t ?_, b1⟩
  rw [hT]
  exact a1
end MWG
end
section
theorem g_3 : (Cond.initialized "WireMessages$Gathered") ∈ GT := gt_mem 3 (by decide +kernel) rfl
theorem g_4 : (Cond.initialized "WireMessages$Reader") ∈ GT := gt_mem 4 (by decide +kernel) rfl
theorem g_5 : (Cond.initialized "WireMessages$Writer") ∈ GT := gt_mem 5 (by decide +kernel) rfl
theorem g_6 : (Cond.initialized "WireMessages$Ends") ∈ GT := gt_mem 6 (by decide +kernel) rfl
theorem g_7 : (Cond.initialized "WireMessages$Names") ∈ GT := gt_mem 7 (by decide +kernel) rfl
theorem g_25 : (Cond.methodLink "WireMessages" (1 : Nat) ({ cls := "java/lang/Object", name := "<init>", desc := "()V" } : MethodName)) ∈ GT := gt_mem 25 (by decide +kernel) rfl
theorem g_26 : (Cond.instanceMethod ({ cls := "java/lang/Object", name := "<init>", desc := "()V" } : MethodName)) ∈ GT := gt_mem 26 (by decide +kernel) rfl
theorem g_27 : (Cond.code ({ cls := "java/lang/Object", name := "<init>", desc := "()V" } : MethodName) object_method_1_code (1 : Nat) (Option.none : Option FieldType)) ∈ GT := gt_mem 27 (by decide +kernel) rfl
theorem g_28 : (Cond.classLink "WireMessages" (7 : Nat) "WireMessages$Bytes") ∈ GT := gt_mem 28 (by decide +kernel) rfl
theorem g_29 : (Cond.instantiable "WireMessages$Bytes" (2 : Nat)) ∈ GT := gt_mem 29 (by decide +kernel) rfl
theorem g_30 : (Cond.methodLinkNest "WireMessages" (9 : Nat) ({ cls := "WireMessages$Bytes", name := "<init>", desc := "()V" } : MethodName) "WireMessages") ∈ GT := gt_mem 30 (by decide +kernel) rfl
theorem g_31 : (Cond.instanceMethod ({ cls := "WireMessages$Bytes", name := "<init>", desc := "()V" } : MethodName)) ∈ GT := gt_mem 31 (by decide +kernel) rfl
theorem g_32 : (Cond.code ({ cls := "WireMessages$Bytes", name := "<init>", desc := "()V" } : MethodName) prog_2_method_1_code (1 : Nat) (Option.none : Option FieldType)) ∈ GT := gt_mem 32 (by decide +kernel) rfl
theorem g_33 : (Cond.methodLink "WireMessages$Bytes" (3 : Nat) ({ cls := "java/lang/Object", name := "<init>", desc := "()V" } : MethodName)) ∈ GT := gt_mem 33 (by decide +kernel) rfl
theorem g_34 : (Cond.constant "WireMessages$Bytes" (9 : Nat) (65536 : Int32)) ∈ GT := gt_mem 34 (by decide +kernel) rfl
theorem g_46 : (Cond.arrayClass FieldType.byte) ∈ GT := gt_mem 46 (by decide +kernel) rfl
theorem g_47 : (Cond.classLink "WireMessages" (16 : Nat) "WireMessages$Gathered") ∈ GT := gt_mem 47 (by decide +kernel) rfl
theorem g_48 : (Cond.instantiable "WireMessages$Gathered" (11 : Nat)) ∈ GT := gt_mem 48 (by decide +kernel) rfl
theorem g_49 : (Cond.methodLinkNest "WireMessages" (18 : Nat) ({ cls := "WireMessages$Gathered", name := "<init>", desc := "()V" } : MethodName) "WireMessages") ∈ GT := gt_mem 49 (by decide +kernel) rfl
theorem g_50 : (Cond.instanceMethod ({ cls := "WireMessages$Gathered", name := "<init>", desc := "()V" } : MethodName)) ∈ GT := gt_mem 50 (by decide +kernel) rfl
theorem g_51 : (Cond.code ({ cls := "WireMessages$Gathered", name := "<init>", desc := "()V" } : MethodName) prog_4_method_1_code (1 : Nat) (Option.none : Option FieldType)) ∈ GT := gt_mem 51 (by decide +kernel) rfl
theorem g_52 : (Cond.methodLink "WireMessages$Gathered" (3 : Nat) ({ cls := "java/lang/Object", name := "<init>", desc := "()V" } : MethodName)) ∈ GT := gt_mem 52 (by decide +kernel) rfl
theorem g_53 : (Cond.classLink "WireMessages$Gathered" (9 : Nat) "WireMessages$Bytes") ∈ GT := gt_mem 53 (by decide +kernel) rfl
theorem g_54 : (Cond.methodLinkNest "WireMessages$Gathered" (11 : Nat) ({ cls := "WireMessages$Bytes", name := "<init>", desc := "()V" } : MethodName) "WireMessages") ∈ GT := gt_mem 54 (by decide +kernel) rfl
theorem g_55 : (Cond.classLink "WireMessages$Gathered" (37 : Nat) "[[I") ∈ GT := gt_mem 55 (by decide +kernel) rfl
theorem g_56 : (Cond.arrayOver (FieldType.array FieldType.int)) ∈ GT := gt_mem 56 (by decide +kernel) rfl
theorem g_57 : (Cond.fieldLink "WireMessages$Gathered" (12 : Nat) "WireMessages$Gathered" "bytes" "LWireMessages$Bytes;") ∈ GT := gt_mem 57 (by decide +kernel) rfl
theorem g_58 : (Cond.fieldLinkNest "WireMessages$Writer" (31 : Nat) "WireMessages$Gathered" "bytes" "LWireMessages$Bytes;" "WireMessages") ∈ GT := gt_mem 58 (by decide +kernel) rfl
theorem g_59 : (Cond.fieldLinkNest "WireMessages" (43 : Nat) "WireMessages$Gathered" "bytes" "LWireMessages$Bytes;" "WireMessages") ∈ GT := gt_mem 59 (by decide +kernel) rfl
theorem g_61 : (Cond.fieldLink "WireMessages$Gathered" (18 : Nat) "WireMessages$Gathered" "starts" "[I") ∈ GT := gt_mem 61 (by decide +kernel) rfl
theorem g_64 : (Cond.fieldLink "WireMessages$Gathered" (22 : Nat) "WireMessages$Gathered" "nameLengths" "[I") ∈ GT := gt_mem 64 (by decide +kernel) rfl
theorem g_67 : (Cond.fieldLink "WireMessages$Gathered" (25 : Nat) "WireMessages$Gathered" "dataLengths" "[I") ∈ GT := gt_mem 67 (by decide +kernel) rfl
theorem g_70 : (Cond.fieldLink "WireMessages$Gathered" (28 : Nat) "WireMessages$Gathered" "types" "[I") ∈ GT := gt_mem 70 (by decide +kernel) rfl
theorem g_73 : (Cond.fieldLink "WireMessages$Gathered" (31 : Nat) "WireMessages$Gathered" "kinds" "[I") ∈ GT := gt_mem 73 (by decide +kernel) rfl
theorem g_76 : (Cond.fieldLink "WireMessages$Gathered" (34 : Nat) "WireMessages$Gathered" "times" "[I") ∈ GT := gt_mem 76 (by decide +kernel) rfl
theorem g_79 : (Cond.fieldLink "WireMessages$Gathered" (39 : Nat) "WireMessages$Gathered" "rows" "[[I") ∈ GT := gt_mem 79 (by decide +kernel) rfl
theorem g_81 : (Cond.fieldLink "WireMessages$Gathered" (42 : Nat) "WireMessages$Gathered" "sizes" "[I") ∈ GT := gt_mem 81 (by decide +kernel) rfl
theorem g_113 : (Cond.arrayClass FieldType.int) ∈ GT := gt_mem 113 (by decide +kernel) rfl
theorem g_114 : (Cond.classLink "WireMessages" (23 : Nat) "WireMessages$Reader") ∈ GT := gt_mem 114 (by decide +kernel) rfl
theorem g_115 : (Cond.instantiable "WireMessages$Reader" (8 : Nat)) ∈ GT := gt_mem 115 (by decide +kernel) rfl
theorem g_116 : (Cond.methodLinkNest "WireMessages" (25 : Nat) ({ cls := "WireMessages$Reader", name := "<init>", desc := "(LWireMessages$Bytes;LWireMessages$Gathered;)V" } : MethodName) "WireMessages") ∈ GT := gt_mem 116 (by decide +kernel) rfl
theorem g_117 : (Cond.instanceMethod ({ cls := "WireMessages$Reader", name := "<init>", desc := "(LWireMessages$Bytes;LWireMessages$Gathered;)V" } : MethodName)) ∈ GT := gt_mem 117 (by decide +kernel) rfl
theorem g_118 : (Cond.code ({ cls := "WireMessages$Reader", name := "<init>", desc := "(LWireMessages$Bytes;LWireMessages$Gathered;)V" } : MethodName) prog_7_method_1_code (3 : Nat) (Option.none : Option FieldType)) ∈ GT := gt_mem 118 (by decide +kernel) rfl
theorem g_119 : (Cond.methodLink "WireMessages$Reader" (3 : Nat) ({ cls := "java/lang/Object", name := "<init>", desc := "()V" } : MethodName)) ∈ GT := gt_mem 119 (by decide +kernel) rfl
theorem g_120 : (Cond.fieldLink "WireMessages$Reader" (9 : Nat) "WireMessages$Reader" "tape" "LWireMessages$Bytes;") ∈ GT := gt_mem 120 (by decide +kernel) rfl
theorem g_121 : (Cond.fieldLink "WireMessages$Reader" (15 : Nat) "WireMessages$Reader" "gathered" "LWireMessages$Gathered;") ∈ GT := gt_mem 121 (by decide +kernel) rfl
theorem g_148 : (Cond.classLink "WireMessages" (32 : Nat) "WireMessages$Writer") ∈ GT := gt_mem 148 (by decide +kernel) rfl
theorem g_149 : (Cond.instantiable "WireMessages$Writer" (6 : Nat)) ∈ GT := gt_mem 149 (by decide +kernel) rfl
theorem g_150 : (Cond.methodLinkNest "WireMessages" (34 : Nat) ({ cls := "WireMessages$Writer", name := "<init>", desc := "(LWireMessages$Gathered;)V" } : MethodName) "WireMessages") ∈ GT := gt_mem 150 (by decide +kernel) rfl
theorem g_151 : (Cond.instanceMethod ({ cls := "WireMessages$Writer", name := "<init>", desc := "(LWireMessages$Gathered;)V" } : MethodName)) ∈ GT := gt_mem 151 (by decide +kernel) rfl
theorem g_152 : (Cond.code ({ cls := "WireMessages$Writer", name := "<init>", desc := "(LWireMessages$Gathered;)V" } : MethodName) prog_8_method_1_code (2 : Nat) (Option.none : Option FieldType)) ∈ GT := gt_mem 152 (by decide +kernel) rfl
theorem g_153 : (Cond.methodLink "WireMessages$Writer" (3 : Nat) ({ cls := "java/lang/Object", name := "<init>", desc := "()V" } : MethodName)) ∈ GT := gt_mem 153 (by decide +kernel) rfl
theorem g_154 : (Cond.classLink "WireMessages$Writer" (9 : Nat) "WireMessages$Bytes") ∈ GT := gt_mem 154 (by decide +kernel) rfl
theorem g_155 : (Cond.methodLinkNest "WireMessages$Writer" (11 : Nat) ({ cls := "WireMessages$Bytes", name := "<init>", desc := "()V" } : MethodName) "WireMessages") ∈ GT := gt_mem 155 (by decide +kernel) rfl
theorem g_156 : (Cond.classLink "WireMessages$Writer" (29 : Nat) "WireMessages$Ends") ∈ GT := gt_mem 156 (by decide +kernel) rfl
theorem g_157 : (Cond.instantiable "WireMessages$Ends" (7 : Nat)) ∈ GT := gt_mem 157 (by decide +kernel) rfl
theorem g_158 : (Cond.methodLinkNest "WireMessages$Writer" (36 : Nat) ({ cls := "WireMessages$Ends", name := "<init>", desc := "(LWireMessages$Bytes;)V" } : MethodName) "WireMessages") ∈ GT := gt_mem 158 (by decide +kernel) rfl
theorem g_159 : (Cond.instanceMethod ({ cls := "WireMessages$Ends", name := "<init>", desc := "(LWireMessages$Bytes;)V" } : MethodName)) ∈ GT := gt_mem 159 (by decide +kernel) rfl
theorem g_160 : (Cond.code ({ cls := "WireMessages$Ends", name := "<init>", desc := "(LWireMessages$Bytes;)V" } : MethodName) prog_3_method_1_code (2 : Nat) (Option.none : Option FieldType)) ∈ GT := gt_mem 160 (by decide +kernel) rfl
theorem g_161 : (Cond.methodLink "WireMessages$Ends" (3 : Nat) ({ cls := "java/lang/Object", name := "<init>", desc := "()V" } : MethodName)) ∈ GT := gt_mem 161 (by decide +kernel) rfl
theorem g_162 : (Cond.fieldLink "WireMessages$Ends" (27 : Nat) "WireMessages$Ends" "source" "LWireMessages$Bytes;") ∈ GT := gt_mem 162 (by decide +kernel) rfl
theorem g_163 : (Cond.fieldLink "WireMessages$Ends" (11 : Nat) "WireMessages$Ends" "newest" "[I") ∈ GT := gt_mem 163 (by decide +kernel) rfl
theorem g_164 : (Cond.fieldLink "WireMessages$Ends" (15 : Nat) "WireMessages$Ends" "older" "[I") ∈ GT := gt_mem 164 (by decide +kernel) rfl
theorem g_165 : (Cond.fieldLink "WireMessages$Ends" (18 : Nat) "WireMessages$Ends" "marks" "[I") ∈ GT := gt_mem 165 (by decide +kernel) rfl
theorem g_166 : (Cond.fieldLink "WireMessages$Ends" (21 : Nat) "WireMessages$Ends" "places" "[I") ∈ GT := gt_mem 166 (by decide +kernel) rfl
theorem g_167 : (Cond.fieldLink "WireMessages$Ends" (24 : Nat) "WireMessages$Ends" "sources" "[I") ∈ GT := gt_mem 167 (by decide +kernel) rfl
theorem g_185 : (Cond.fieldLink "WireMessages$Writer" (25 : Nat) "WireMessages$Writer" "gathered" "LWireMessages$Gathered;") ∈ GT := gt_mem 185 (by decide +kernel) rfl
theorem g_186 : (Cond.fieldLink "WireMessages$Writer" (12 : Nat) "WireMessages$Writer" "message" "LWireMessages$Bytes;") ∈ GT := gt_mem 186 (by decide +kernel) rfl
theorem g_188 : (Cond.fieldLink "WireMessages$Writer" (39 : Nat) "WireMessages$Writer" "ends" "LWireMessages$Ends;") ∈ GT := gt_mem 188 (by decide +kernel) rfl
theorem g_189 : (Cond.fieldLink "WireMessages$Writer" (18 : Nat) "WireMessages$Writer" "labelStarts" "[I") ∈ GT := gt_mem 189 (by decide +kernel) rfl
theorem g_190 : (Cond.fieldLink "WireMessages$Writer" (22 : Nat) "WireMessages$Writer" "labelMarks" "[I") ∈ GT := gt_mem 190 (by decide +kernel) rfl
theorem g_206 : (Cond.classLink "WireMessages" (41 : Nat) "WireMessages$Names") ∈ GT := gt_mem 206 (by decide +kernel) rfl
theorem g_207 : (Cond.instantiable "WireMessages$Names" (3 : Nat)) ∈ GT := gt_mem 207 (by decide +kernel) rfl
theorem g_208 : (Cond.methodLinkNest "WireMessages" (46 : Nat) ({ cls := "WireMessages$Names", name := "<init>", desc := "(LWireMessages$Bytes;)V" } : MethodName) "WireMessages") ∈ GT := gt_mem 208 (by decide +kernel) rfl
theorem g_209 : (Cond.instanceMethod ({ cls := "WireMessages$Names", name := "<init>", desc := "(LWireMessages$Bytes;)V" } : MethodName)) ∈ GT := gt_mem 209 (by decide +kernel) rfl
theorem g_210 : (Cond.code ({ cls := "WireMessages$Names", name := "<init>", desc := "(LWireMessages$Bytes;)V" } : MethodName) prog_6_method_1_code (2 : Nat) (Option.none : Option FieldType)) ∈ GT := gt_mem 210 (by decide +kernel) rfl
theorem g_211 : (Cond.methodLink "WireMessages$Names" (3 : Nat) ({ cls := "java/lang/Object", name := "<init>", desc := "()V" } : MethodName)) ∈ GT := gt_mem 211 (by decide +kernel) rfl
theorem g_212 : (Cond.fieldLink "WireMessages$Names" (18 : Nat) "WireMessages$Names" "source" "LWireMessages$Bytes;") ∈ GT := gt_mem 212 (by decide +kernel) rfl
theorem g_213 : (Cond.fieldLink "WireMessages$Names" (9 : Nat) "WireMessages$Names" "labels" "[I") ∈ GT := gt_mem 213 (by decide +kernel) rfl
theorem g_214 : (Cond.fieldLink "WireMessages$Names" (15 : Nat) "WireMessages$Names" "otherLabels" "[I") ∈ GT := gt_mem 214 (by decide +kernel) rfl
theorem g_222 : (Cond.fieldLink "WireMessages" (10 : Nat) "WireMessages" "tape" "LWireMessages$Bytes;") ∈ GT := gt_mem 222 (by decide +kernel) rfl
theorem g_223 : (Cond.fieldLink "WireMessages" (19 : Nat) "WireMessages" "gathered" "LWireMessages$Gathered;") ∈ GT := gt_mem 223 (by decide +kernel) rfl
theorem g_224 : (Cond.fieldLink "WireMessages" (28 : Nat) "WireMessages" "reader" "LWireMessages$Reader;") ∈ GT := gt_mem 224 (by decide +kernel) rfl
theorem g_225 : (Cond.fieldLink "WireMessages" (37 : Nat) "WireMessages" "writer" "LWireMessages$Writer;") ∈ GT := gt_mem 225 (by decide +kernel) rfl
theorem g_226 : (Cond.fieldLink "WireMessages" (49 : Nat) "WireMessages" "names" "LWireMessages$Names;") ∈ GT := gt_mem 226 (by decide +kernel) rfl
theorem g_227 : (Cond.fieldLink "WireMessages" (53 : Nat) "WireMessages" "lastFaultPlace" "I") ∈ GT := gt_mem 227 (by decide +kernel) rfl
theorem g_228 : (Cond.fieldLink "WireMessages" (57 : Nat) "WireMessages" "lastFollowed" "I") ∈ GT := gt_mem 228 (by decide +kernel) rfl
theorem d_By_init_0 : decode b_By_init 0 = .ok (.aload_n 0, 1) := by decide +kernel
theorem d_By_init_1 : decode b_By_init 1 = .ok (.invokespecial 3, 3) := by decide +kernel
theorem d_By_init_4 : decode b_By_init 4 = .ok (.aload_n 0, 1) := by decide +kernel
theorem d_By_init_5 : decode b_By_init 5 = .ok (.ldc 9, 2) := by decide +kernel
theorem d_By_init_7 : decode b_By_init 7 = .ok (.newarray .byte, 2) := by decide +kernel
theorem d_By_init_9 : decode b_By_init 9 = .ok (.putfield 10, 3) := by decide +kernel
theorem d_By_init_12 : decode b_By_init 12 = .ok (.return_, 1) := by decide +kernel
theorem d_Ga_init_0 : decode b_Ga_init 0 = .ok (.aload_n 0, 1) := by decide +kernel
theorem d_Ga_init_1 : decode b_Ga_init 1 = .ok (.invokespecial 3, 3) := by decide +kernel
theorem d_Ga_init_4 : decode b_Ga_init 4 = .ok (.aload_n 0, 1) := by decide +kernel
theorem d_Ga_init_5 : decode b_Ga_init 5 = .ok (.new 9, 3) := by decide +kernel
theorem d_Ga_init_8 : decode b_Ga_init 8 = .ok (.dup, 1) := by decide +kernel
theorem d_Ga_init_9 : decode b_Ga_init 9 = .ok (.invokespecial 11, 3) := by decide +kernel
theorem d_Ga_init_12 : decode b_Ga_init 12 = .ok (.putfield 12, 3) := by decide +kernel
theorem d_Ga_init_15 : decode b_Ga_init 15 = .ok (.aload_n 0, 1) := by decide +kernel
theorem d_Ga_init_16 : decode b_Ga_init 16 = .ok (.sipush 1100, 3) := by decide +kernel
theorem d_Ga_init_19 : decode b_Ga_init 19 = .ok (.newarray .int, 2) := by decide +kernel
theorem d_Ga_init_21 : decode b_Ga_init 21 = .ok (.putfield 18, 3) := by decide +kernel
theorem d_Ga_init_24 : decode b_Ga_init 24 = .ok (.aload_n 0, 1) := by decide +kernel
theorem d_Ga_init_25 : decode b_Ga_init 25 = .ok (.sipush 1100, 3) := by decide +kernel
theorem d_Ga_init_28 : decode b_Ga_init 28 = .ok (.newarray .int, 2) := by decide +kernel
theorem d_Ga_init_30 : decode b_Ga_init 30 = .ok (.putfield 22, 3) := by decide +kernel
theorem d_Ga_init_33 : decode b_Ga_init 33 = .ok (.aload_n 0, 1) := by decide +kernel
theorem d_Ga_init_34 : decode b_Ga_init 34 = .ok (.sipush 1100, 3) := by decide +kernel
theorem d_Ga_init_37 : decode b_Ga_init 37 = .ok (.newarray .int, 2) := by decide +kernel
theorem d_Ga_init_39 : decode b_Ga_init 39 = .ok (.putfield 25, 3) := by decide +kernel
theorem d_Ga_init_42 : decode b_Ga_init 42 = .ok (.aload_n 0, 1) := by decide +kernel
theorem d_Ga_init_43 : decode b_Ga_init 43 = .ok (.sipush 1100, 3) := by decide +kernel
theorem d_Ga_init_46 : decode b_Ga_init 46 = .ok (.newarray .int, 2) := by decide +kernel
theorem d_Ga_init_48 : decode b_Ga_init 48 = .ok (.putfield 28, 3) := by decide +kernel
theorem d_Ga_init_51 : decode b_Ga_init 51 = .ok (.aload_n 0, 1) := by decide +kernel
theorem d_Ga_init_52 : decode b_Ga_init 52 = .ok (.sipush 1100, 3) := by decide +kernel
theorem d_Ga_init_55 : decode b_Ga_init 55 = .ok (.newarray .int, 2) := by decide +kernel
theorem d_Ga_init_57 : decode b_Ga_init 57 = .ok (.putfield 31, 3) := by decide +kernel
theorem d_Ga_init_60 : decode b_Ga_init 60 = .ok (.aload_n 0, 1) := by decide +kernel
theorem d_Ga_init_61 : decode b_Ga_init 61 = .ok (.sipush 1100, 3) := by decide +kernel
theorem d_Ga_init_64 : decode b_Ga_init 64 = .ok (.newarray .int, 2) := by decide +kernel
theorem d_Ga_init_66 : decode b_Ga_init 66 = .ok (.putfield 34, 3) := by decide +kernel
theorem d_Ga_init_69 : decode b_Ga_init 69 = .ok (.aload_n 0, 1) := by decide +kernel
theorem d_Ga_init_70 : decode b_Ga_init 70 = .ok (.iconst 4, 1) := by decide +kernel
theorem d_Ga_init_71 : decode b_Ga_init 71 = .ok (.sipush 1000, 3) := by decide +kernel
theorem d_Ga_init_74 : decode b_Ga_init 74 = .ok (.multianewarray 37 2, 4) := by decide +kernel
theorem d_Ga_init_78 : decode b_Ga_init 78 = .ok (.putfield 39, 3) := by decide +kernel
theorem d_Ga_init_81 : decode b_Ga_init 81 = .ok (.aload_n 0, 1) := by decide +kernel
theorem d_Ga_init_82 : decode b_Ga_init 82 = .ok (.iconst 4, 1) := by decide +kernel
theorem d_Ga_init_83 : decode b_Ga_init 83 = .ok (.newarray .int, 2) := by decide +kernel
theorem d_Ga_init_85 : decode b_Ga_init 85 = .ok (.putfield 42, 3) := by decide +kernel
theorem d_Ga_init_88 : decode b_Ga_init 88 = .ok (.return_, 1) := by decide +kernel
theorem d_Re_init_0 : decode b_Re_init 0 = .ok (.aload_n 0, 1) := by decide +kernel
theorem d_Re_init_1 : decode b_Re_init 1 = .ok (.invokespecial 3, 3) := by decide +kernel
theorem d_Re_init_4 : decode b_Re_init 4 = .ok (.aload_n 0, 1) := by decide +kernel
theorem d_Re_init_5 : decode b_Re_init 5 = .ok (.aload_n 1, 1) := by decide +kernel
theorem d_Re_init_6 : decode b_Re_init 6 = .ok (.putfield 9, 3) := by decide +kernel
theorem d_Re_init_9 : decode b_Re_init 9 = .ok (.aload_n 0, 1) := by decide +kernel
theorem d_Re_init_10 : decode b_Re_init 10 = .ok (.aload_n 2, 1) := by decide +kernel
theorem d_Re_init_11 : decode b_Re_init 11 = .ok (.putfield 15, 3) := by decide +kernel
theorem d_Re_init_14 : decode b_Re_init 14 = .ok (.return_, 1) := by decide +kernel
theorem d_Na_init_0 : decode b_Na_init 0 = .ok (.aload_n 0, 1) := by decide +kernel
theorem d_Na_init_1 : decode b_Na_init 1 = .ok (.invokespecial 3, 3) := by decide +kernel
theorem d_Na_init_4 : decode b_Na_init 4 = .ok (.aload_n 0, 1) := by decide +kernel
theorem d_Na_init_5 : decode b_Na_init 5 = .ok (.bipush 127, 2) := by decide +kernel
theorem d_Na_init_7 : decode b_Na_init 7 = .ok (.newarray .int, 2) := by decide +kernel
theorem d_Na_init_9 : decode b_Na_init 9 = .ok (.putfield 9, 3) := by decide +kernel
theorem d_Na_init_12 : decode b_Na_init 12 = .ok (.aload_n 0, 1) := by decide +kernel
theorem d_Na_init_13 : decode b_Na_init 13 = .ok (.bipush 127, 2) := by decide +kernel
theorem d_Na_init_15 : decode b_Na_init 15 = .ok (.newarray .int, 2) := by decide +kernel
theorem d_Na_init_17 : decode b_Na_init 17 = .ok (.putfield 15, 3) := by decide +kernel
theorem d_Na_init_20 : decode b_Na_init 20 = .ok (.aload_n 0, 1) := by decide +kernel
theorem d_Na_init_21 : decode b_Na_init 21 = .ok (.aload_n 1, 1) := by decide +kernel
theorem d_Na_init_22 : decode b_Na_init 22 = .ok (.putfield 18, 3) := by decide +kernel
theorem d_Na_init_25 : decode b_Na_init 25 = .ok (.return_, 1) := by decide +kernel
theorem d_En_init_0 : decode b_En_init 0 = .ok (.aload_n 0, 1) := by decide +kernel
theorem d_En_init_1 : decode b_En_init 1 = .ok (.invokespecial 3, 3) := by decide +kernel
theorem d_En_init_4 : decode b_En_init 4 = .ok (.aload_n 0, 1) := by decide +kernel
theorem d_En_init_5 : decode b_En_init 5 = .ok (.sipush 4096, 3) := by decide +kernel
theorem d_En_init_8 : decode b_En_init 8 = .ok (.newarray .int, 2) := by decide +kernel
theorem d_En_init_10 : decode b_En_init 10 = .ok (.putfield 11, 3) := by decide +kernel
theorem d_En_init_13 : decode b_En_init 13 = .ok (.aload_n 0, 1) := by decide +kernel
theorem d_En_init_14 : decode b_En_init 14 = .ok (.sipush 8192, 3) := by decide +kernel
theorem d_En_init_17 : decode b_En_init 17 = .ok (.newarray .int, 2) := by decide +kernel
theorem d_En_init_19 : decode b_En_init 19 = .ok (.putfield 15, 3) := by decide +kernel
theorem d_En_init_22 : decode b_En_init 22 = .ok (.aload_n 0, 1) := by decide +kernel
theorem d_En_init_23 : decode b_En_init 23 = .ok (.sipush 8192, 3) := by decide +kernel
theorem d_En_init_26 : decode b_En_init 26 = .ok (.newarray .int, 2) := by decide +kernel
theorem d_En_init_28 : decode b_En_init 28 = .ok (.putfield 18, 3) := by decide +kernel
theorem d_En_init_31 : decode b_En_init 31 = .ok (.aload_n 0, 1) := by decide +kernel
theorem d_En_init_32 : decode b_En_init 32 = .ok (.sipush 8192, 3) := by decide +kernel
theorem d_En_init_35 : decode b_En_init 35 = .ok (.newarray .int, 2) := by decide +kernel
theorem d_En_init_37 : decode b_En_init 37 = .ok (.putfield 21, 3) := by decide +kernel
theorem d_En_init_40 : decode b_En_init 40 = .ok (.aload_n 0, 1) := by decide +kernel
theorem d_En_init_41 : decode b_En_init 41 = .ok (.sipush 8192, 3) := by decide +kernel
theorem d_En_init_44 : decode b_En_init 44 = .ok (.newarray .int, 2) := by decide +kernel
theorem d_En_init_46 : decode b_En_init 46 = .ok (.putfield 24, 3) := by decide +kernel
theorem d_En_init_49 : decode b_En_init 49 = .ok (.aload_n 0, 1) := by decide +kernel
theorem d_En_init_50 : decode b_En_init 50 = .ok (.aload_n 1, 1) := by decide +kernel
theorem d_En_init_51 : decode b_En_init 51 = .ok (.putfield 27, 3) := by decide +kernel
theorem d_En_init_54 : decode b_En_init 54 = .ok (.return_, 1) := by decide +kernel
theorem d_Wr_init_0 : decode b_Wr_init 0 = .ok (.aload_n 0, 1) := by decide +kernel
theorem d_Wr_init_1 : decode b_Wr_init 1 = .ok (.invokespecial 3, 3) := by decide +kernel
theorem d_Wr_init_4 : decode b_Wr_init 4 = .ok (.aload_n 0, 1) := by decide +kernel
theorem d_Wr_init_5 : decode b_Wr_init 5 = .ok (.new 9, 3) := by decide +kernel
theorem d_Wr_init_8 : decode b_Wr_init 8 = .ok (.dup, 1) := by decide +kernel
theorem d_Wr_init_9 : decode b_Wr_init 9 = .ok (.invokespecial 11, 3) := by decide +kernel
theorem d_Wr_init_12 : decode b_Wr_init 12 = .ok (.putfield 12, 3) := by decide +kernel
theorem d_Wr_init_15 : decode b_Wr_init 15 = .ok (.aload_n 0, 1) := by decide +kernel
theorem d_Wr_init_16 : decode b_Wr_init 16 = .ok (.bipush 127, 2) := by decide +kernel
theorem d_Wr_init_18 : decode b_Wr_init 18 = .ok (.newarray .int, 2) := by decide +kernel
theorem d_Wr_init_20 : decode b_Wr_init 20 = .ok (.putfield 18, 3) := by decide +kernel
theorem d_Wr_init_23 : decode b_Wr_init 23 = .ok (.aload_n 0, 1) := by decide +kernel
theorem d_Wr_init_24 : decode b_Wr_init 24 = .ok (.bipush 127, 2) := by decide +kernel
theorem d_Wr_init_26 : decode b_Wr_init 26 = .ok (.newarray .int, 2) := by decide +kernel
theorem d_Wr_init_28 : decode b_Wr_init 28 = .ok (.putfield 22, 3) := by decide +kernel
theorem d_Wr_init_31 : decode b_Wr_init 31 = .ok (.aload_n 0, 1) := by decide +kernel
theorem d_Wr_init_32 : decode b_Wr_init 32 = .ok (.aload_n 1, 1) := by decide +kernel
theorem d_Wr_init_33 : decode b_Wr_init 33 = .ok (.putfield 25, 3) := by decide +kernel
theorem d_Wr_init_36 : decode b_Wr_init 36 = .ok (.aload_n 0, 1) := by decide +kernel
theorem d_Wr_init_37 : decode b_Wr_init 37 = .ok (.new 29, 3) := by decide +kernel
theorem d_Wr_init_40 : decode b_Wr_init 40 = .ok (.dup, 1) := by decide +kernel
theorem d_Wr_init_41 : decode b_Wr_init 41 = .ok (.aload_n 1, 1) := by decide +kernel
theorem d_Wr_init_42 : decode b_Wr_init 42 = .ok (.getfield 31, 3) := by decide +kernel
theorem d_Wr_init_45 : decode b_Wr_init 45 = .ok (.invokespecial 36, 3) := by decide +kernel
theorem d_Wr_init_48 : decode b_Wr_init 48 = .ok (.putfield 39, 3) := by decide +kernel
theorem d_Wr_init_51 : decode b_Wr_init 51 = .ok (.return_, 1) := by decide +kernel
theorem d_Wm_init_0 : decode b_Wm_init 0 = .ok (.aload_n 0, 1) := by decide +kernel
theorem d_Wm_init_1 : decode b_Wm_init 1 = .ok (.invokespecial 1, 3) := by decide +kernel
theorem d_Wm_init_4 : decode b_Wm_init 4 = .ok (.aload_n 0, 1) := by decide +kernel
theorem d_Wm_init_5 : decode b_Wm_init 5 = .ok (.new 7, 3) := by decide +kernel
theorem d_Wm_init_8 : decode b_Wm_init 8 = .ok (.dup, 1) := by decide +kernel
theorem d_Wm_init_9 : decode b_Wm_init 9 = .ok (.invokespecial 9, 3) := by decide +kernel
theorem d_Wm_init_12 : decode b_Wm_init 12 = .ok (.putfield 10, 3) := by decide +kernel
theorem d_Wm_init_15 : decode b_Wm_init 15 = .ok (.aload_n 0, 1) := by decide +kernel
theorem d_Wm_init_16 : decode b_Wm_init 16 = .ok (.new 16, 3) := by decide +kernel
theorem d_Wm_init_19 : decode b_Wm_init 19 = .ok (.dup, 1) := by decide +kernel
theorem d_Wm_init_20 : decode b_Wm_init 20 = .ok (.invokespecial 18, 3) := by decide +kernel
theorem d_Wm_init_23 : decode b_Wm_init 23 = .ok (.putfield 19, 3) := by decide +kernel
theorem d_Wm_init_26 : decode b_Wm_init 26 = .ok (.aload_n 0, 1) := by decide +kernel
theorem d_Wm_init_27 : decode b_Wm_init 27 = .ok (.new 23, 3) := by decide +kernel
theorem d_Wm_init_30 : decode b_Wm_init 30 = .ok (.dup, 1) := by decide +kernel
theorem d_Wm_init_31 : decode b_Wm_init 31 = .ok (.aload_n 0, 1) := by decide +kernel
theorem d_Wm_init_32 : decode b_Wm_init 32 = .ok (.getfield 10, 3) := by decide +kernel
theorem d_Wm_init_35 : decode b_Wm_init 35 = .ok (.aload_n 0, 1) := by decide +kernel
theorem d_Wm_init_36 : decode b_Wm_init 36 = .ok (.getfield 19, 3) := by decide +kernel
theorem d_Wm_init_39 : decode b_Wm_init 39 = .ok (.invokespecial 25, 3) := by decide +kernel
theorem d_Wm_init_42 : decode b_Wm_init 42 = .ok (.putfield 28, 3) := by decide +kernel
theorem d_Wm_init_45 : decode b_Wm_init 45 = .ok (.aload_n 0, 1) := by decide +kernel
theorem d_Wm_init_46 : decode b_Wm_init 46 = .ok (.new 32, 3) := by decide +kernel
theorem d_Wm_init_49 : decode b_Wm_init 49 = .ok (.dup, 1) := by decide +kernel
theorem d_Wm_init_50 : decode b_Wm_init 50 = .ok (.aload_n 0, 1) := by decide +kernel
theorem d_Wm_init_51 : decode b_Wm_init 51 = .ok (.getfield 19, 3) := by decide +kernel
theorem d_Wm_init_54 : decode b_Wm_init 54 = .ok (.invokespecial 34, 3) := by decide +kernel
theorem d_Wm_init_57 : decode b_Wm_init 57 = .ok (.putfield 37, 3) := by decide +kernel
theorem d_Wm_init_60 : decode b_Wm_init 60 = .ok (.aload_n 0, 1) := by decide +kernel
theorem d_Wm_init_61 : decode b_Wm_init 61 = .ok (.new 41, 3) := by decide +kernel
theorem d_Wm_init_64 : decode b_Wm_init 64 = .ok (.dup, 1) := by decide +kernel
theorem d_Wm_init_65 : decode b_Wm_init 65 = .ok (.aload_n 0, 1) := by decide +kernel
theorem d_Wm_init_66 : decode b_Wm_init 66 = .ok (.getfield 19, 3) := by decide +kernel
theorem d_Wm_init_69 : decode b_Wm_init 69 = .ok (.getfield 43, 3) := by decide +kernel
theorem d_Wm_init_72 : decode b_Wm_init 72 = .ok (.invokespecial 46, 3) := by decide +kernel
theorem d_Wm_init_75 : decode b_Wm_init 75 = .ok (.putfield 49, 3) := by decide +kernel
theorem d_Wm_init_78 : decode b_Wm_init 78 = .ok (.aload_n 0, 1) := by decide +kernel
theorem d_Wm_init_79 : decode b_Wm_init 79 = .ok (.iconst (-1), 1) := by decide +kernel
theorem d_Wm_init_80 : decode b_Wm_init 80 = .ok (.putfield 53, 3) := by decide +kernel
theorem d_Wm_init_83 : decode b_Wm_init 83 = .ok (.aload_n 0, 1) := by decide +kernel
theorem d_Wm_init_84 : decode b_Wm_init 84 = .ok (.iconst 0, 1) := by decide +kernel
theorem d_Wm_init_85 : decode b_Wm_init 85 = .ok (.putfield 57, 3) := by decide +kernel
theorem d_Wm_init_88 : decode b_Wm_init 88 = .ok (.return_, 1) := by decide +kernel
set_option maxHeartbeats 4000000 in
set_option maxRecDepth 100000 in
theorem c_By_init (l : Launch) (D9 : va_G) (cB cI cJ cG : ClassId) (b : Nat) : MW l D9 cls9 (ty9 cB cI cJ cG) y_By_init b_By_init 1 none (rm9 1 1 65536) [.ref b] [(b, .inr (0, [.null, .int 0]))] (fun v w2 => v = none ∧ ∃ r, w2 = [(b, .inr (0, [.ref r, .int 0])), (r, .inl (cB, 65536, .inl (fun _ => 0)))]) 1 65536 := by
  refine mw_of (by decide) (Nat.le_of_ble_eq_true rfl) ?_
  intro p e s m below meth c ls C0 hin hP hD hA hS hl
  obtain ⟨hx, hb, hml, hr, hlocks, hown, hts, hK⟩ := id C0
  have hl : lv_has ls 1 [(0, .ref b)] := hl
  refine lv_aload_n hx hb d_By_init_0 rfl (lv_at hl 0 rfl) ?_
  refine W.objInit hx hb hown (hts _ g_33) (hts _ g_26) (hts _ g_27) rfl (by rw [hml]; exact hl.1) rfl d_By_init_1 (Nat.le_of_ble_eq_true rfl) (Nat.le_of_ble_eq_true rfl) ?_
  refine W.eq (g2 := F0 m 4 ls []) rfl ?_
  refine lv_aload_n hx hb d_By_init_4 rfl (lv_at hl 0 rfl) ?_
  refine lv_ldc hx hb hown (hts _ g_34) d_By_init_5 ?_
  refine mw_newa (D := D9) (atype := .byte) (a0 := (65536, .inl (fun _ => 0))) (t := 0) (ty := .byte) hx hb (hts _ g_46) rfl (fun _ h => h) hK rfl hP hD hS hA (fun _ => rfl) (by decide) (by decide) (by decide) (by decide) (by decide) d_By_init_7 (fun q_r H hP hD hS => ?_)
  have hP : va_P D9 cls9 [(b, .inr (0, [.null, .int 0])), (q_r, .inl (cB, 65536, .inl (fun _ => 0)))] H := hP
  have hD : va_D _ [(b, .inr (0, [.null, .int 0])), (q_r, .inl (cB, 65536, .inl (fun _ => 0)))] := hD
  refine va_putF (D := D9) (ty := .array (.byte)) (ci := 0) (C := R_By) (T := F_By) (N := 2) hx hb hts i_By t_By t_By_ok n_By hown hK hP hD hS 0 rfl rfl 0 (by decide) (hts _ g_35) (fun _ h9 => h9) rfl hin rfl (by decide +kernel) rfl rfl (Nat.le_of_ble_eq_true rfl) d_By_init_9 (fun H locs hP hD hS => ?_)
  have hP : va_P D9 cls9 [(b, .inr (0, [.ref q_r, .int 0])), (q_r, .inl (cB, 65536, .inl (fun _ => 0)))] H := hP
  have hD : va_D _ [(b, .inr (0, [.ref q_r, .int 0])), (q_r, .inl (cB, 65536, .inl (fun _ => 0)))] := hD
  exact mw_vret hx hb hr hlocks hS hP hD (by decide) (by decide) d_By_init_12 (⟨rfl, q_r, rfl⟩)
set_option maxHeartbeats 4000000 in
set_option maxRecDepth 100000 in
theorem c_Ga_init (l : Launch) (D9 : va_G) (cB cI cJ cG : ClassId) (b : Nat) : MW l D9 cls9 (ty9 cB cI cJ cG) y_Ga_init b_Ga_init 1 none (rm9 2 14 76146) [.ref b] [(b, .inr (2, [.null, .null, .null, .null, .null, .null, .null, .null, .null, .int 0, .int 0]))] (fun v w2 => v = none ∧ ∃ q_gb q_gbr q_st q_nl q_dl q_ty q_ki q_ti q_rows q_sz, w2 = [(b, .inr (2, [.ref q_gb, .ref q_st, .ref q_nl, .ref q_dl, .ref q_ty, .ref q_ki, .ref q_ti, .ref q_rows, .ref q_sz, .int 0, .int 0])), (q_gb, .inr (0, [.ref q_gbr, .int 0])), (q_gbr, .inl (cB, 65536, .inl (fun _ => 0))), (q_st, .inl (cI, 1100, .inl (fun _ => 0))), (q_nl, .inl (cI, 1100, .inl (fun _ => 0))), (q_dl, .inl (cI, 1100, .inl (fun _ => 0))), (q_ty, .inl (cI, 1100, .inl (fun _ => 0))), (q_ki, .inl (cI, 1100, .inl (fun _ => 0))), (q_ti, .inl (cI, 1100, .inl (fun _ => 0))), (q_rows, .inl (cG, 4, .inr (.inr (.inr (.inr (fun i => if i < 4 then some (q_rows + 1 + i) else none)))))), (q_rows + 1, .inl (cI, 1000, .inl (fun _ => 0))), (q_rows + 2, .inl (cI, 1000, .inl (fun _ => 0))), (q_rows + 3, .inl (cI, 1000, .inl (fun _ => 0))), (q_rows + 4, .inl (cI, 1000, .inl (fun _ => 0))), (q_sz, .inl (cI, 4, .inl (fun _ => 0)))]) 14 76146 := by
  refine mw_of (by decide) (Nat.le_of_ble_eq_true rfl) ?_
  intro p e s m below meth c ls C0 hin hP hD hA hS hl
  obtain ⟨hx, hb, hml, hr, hlocks, hown, hts, hK⟩ := id C0
  have hl : lv_has ls 1 [(0, .ref b)] := hl
  refine lv_aload_n hx hb d_Ga_init_0 rfl (lv_at hl 0 rfl) ?_
  refine W.objInit hx hb hown (hts _ g_52) (hts _ g_26) (hts _ g_27) rfl (by rw [hml]; exact hl.1) rfl d_Ga_init_1 (Nat.le_of_ble_eq_true rfl) (Nat.le_of_ble_eq_true rfl) ?_
  refine W.eq (g2 := F0 m 4 ls []) rfl ?_
  refine lv_aload_n hx hb d_Ga_init_4 rfl (lv_at hl 0 rfl) ?_
  refine va_new (D := D9) (ci := 0) (fs := [.null, .int 0]) (C := R_By) (T := F_By) (N := 2) hx hb hts i_By t_By t_By_ok hown (hts _ g_53) (hts _ g_29) (hts _ g_2) hK hP hD hS hA rfl (fun j hj => by rcases (show j = 0 ∨ j = 1 by omega) with rfl | rfl <;> rfl) (by decide) (by decide) d_Ga_init_5 (fun q_gb H hP hD hS => ?_)
  have hP : va_P D9 cls9 [(b, .inr (2, [.null, .null, .null, .null, .null, .null, .null, .null, .null, .int 0, .int 0])), (q_gb, .inr (0, [.null, .int 0]))] H := hP
  have hD : va_D _ [(b, .inr (2, [.null, .null, .null, .null, .null, .null, .null, .null, .null, .int 0, .int 0])), (q_gb, .inr (0, [.null, .int 0]))] := hD
  refine lv_dup hx hb d_Ga_init_8 rfl ?_
  refine mf_cIN (wr := [_]) C0 (c_By_init l D9 cB cI cJ cG q_gb) g_32 g_2 g_54 g_31 rfl ⟨by decide +kernel, by decide +kernel, show Option.map (fun d => d.parameters.length) (parseMethodDescriptor y_By_init.desc) = some 0 by decide +kernel⟩ ⟨by decide, by decide⟩ rfl rfl hP hD hS hA [1] [0] rfl rfl (by decide) (by decide) (by decide) hl.1 (Nat.le_of_ble_eq_true rfl) rfl d_Ga_init_9 ⟨by decide, by decide⟩ (fun v9 w9 H locs hq hP hD hS => ?_)
  obtain ⟨rfl, q_gbr, hw9⟩ := hq
  rw [hw9] at hP hD
  have hP : va_P D9 cls9 [(b, .inr (2, [.null, .null, .null, .null, .null, .null, .null, .null, .null, .int 0, .int 0])), (q_gb, .inr (0, [.ref q_gbr, .int 0])), (q_gbr, .inl (cB, 65536, .inl (fun _ => 0)))] H := hP
  have hD : va_D _ [(b, .inr (2, [.null, .null, .null, .null, .null, .null, .null, .null, .null, .int 0, .int 0])), (q_gb, .inr (0, [.ref q_gbr, .int 0])), (q_gbr, .inl (cB, 65536, .inl (fun _ => 0)))] := hD
  refine va_putF (D := D9) (ty := .object "WireMessages$Bytes") (ci := 2) (C := R_Ga) (T := F_Ga) (N := 11) hx hb hts i_Ga t_Ga t_Ga_ok n_Ga hown hK hP hD hS 0 rfl rfl 0 (by decide) (hts _ g_57) (fun _ h9 => h9) rfl hin rfl (by decide +kernel) rfl rfl (Nat.le_of_ble_eq_true rfl) d_Ga_init_12 (fun H locs hP hD hS => ?_)
  have hP : va_P D9 cls9 [(b, .inr (2, [.ref q_gb, .null, .null, .null, .null, .null, .null, .null, .null, .int 0, .int 0])), (q_gb, .inr (0, [.ref q_gbr, .int 0])), (q_gbr, .inl (cB, 65536, .inl (fun _ => 0)))] H := hP
  have hD : va_D _ [(b, .inr (2, [.ref q_gb, .null, .null, .null, .null, .null, .null, .null, .null, .int 0, .int 0])), (q_gb, .inr (0, [.ref q_gbr, .int 0])), (q_gbr, .inl (cB, 65536, .inl (fun _ => 0)))] := hD
  refine lv_aload_n hx hb d_Ga_init_15 rfl (lv_at hl 0 rfl) ?_
  refine lv_sipush (v := 1100) hx hb d_Ga_init_16 (by decide) ?_
  refine mw_newa (D := D9) (atype := .int) (a0 := (1100, .inl (fun _ => 0))) (t := 1) (ty := .int) hx hb (hts _ g_113) rfl (fun _ h => h) hK rfl hP hD hS hA (fun _ => rfl) (by decide) (by decide) (by decide) (by decide) (by decide) d_Ga_init_19 (fun q_st H hP hD hS => ?_)
  have hP : va_P D9 cls9 [(b, .inr (2, [.ref q_gb, .null, .null, .null, .null, .null, .null, .null, .null, .int 0, .int 0])), (q_gb, .inr (0, [.ref q_gbr, .int 0])), (q_gbr, .inl (cB, 65536, .inl (fun _ => 0))), (q_st, .inl (cI, 1100, .inl (fun _ => 0)))] H := hP
  have hD : va_D _ [(b, .inr (2, [.ref q_gb, .null, .null, .null, .null, .null, .null, .null, .null, .int 0, .int 0])), (q_gb, .inr (0, [.ref q_gbr, .int 0])), (q_gbr, .inl (cB, 65536, .inl (fun _ => 0))), (q_st, .inl (cI, 1100, .inl (fun _ => 0)))] := hD
  refine va_putF (D := D9) (ty := .array (.int)) (ci := 2) (C := R_Ga) (T := F_Ga) (N := 11) hx hb hts i_Ga t_Ga t_Ga_ok n_Ga hown hK hP hD hS 0 rfl rfl 1 (by decide) (hts _ g_61) (fun _ h9 => h9) rfl hin rfl (by decide +kernel) rfl rfl (Nat.le_of_ble_eq_true rfl) d_Ga_init_21 (fun H locs hP hD hS => ?_)
  have hP : va_P D9 cls9 [(b, .inr (2, [.ref q_gb, .ref q_st, .null, .null, .null, .null, .null, .null, .null, .int 0, .int 0])), (q_gb, .inr (0, [.ref q_gbr, .int 0])), (q_gbr, .inl (cB, 65536, .inl (fun _ => 0))), (q_st, .inl (cI, 1100, .inl (fun _ => 0)))] H := hP
  have hD : va_D _ [(b, .inr (2, [.ref q_gb, .ref q_st, .null, .null, .null, .null, .null, .null, .null, .int 0, .int 0])), (q_gb, .inr (0, [.ref q_gbr, .int 0])), (q_gbr, .inl (cB, 65536, .inl (fun _ => 0))), (q_st, .inl (cI, 1100, .inl (fun _ => 0)))] := hD
  refine lv_aload_n hx hb d_Ga_init_24 rfl (lv_at hl 0 rfl) ?_
  refine lv_sipush (v := 1100) hx hb d_Ga_init_25 (by decide) ?_
  refine mw_newa (D := D9) (atype := .int) (a0 := (1100, .inl (fun _ => 0))) (t := 1) (ty := .int) hx hb (hts _ g_113) rfl (fun _ h => h) hK rfl hP hD hS hA (fun _ => rfl) (by decide) (by decide) (by decide) (by decide) (by decide) d_Ga_init_28 (fun q_nl H hP hD hS => ?_)
  have hP : va_P D9 cls9 [(b, .inr (2, [.ref q_gb, .ref q_st, .null, .null, .null, .null, .null, .null, .null, .int 0, .int 0])), (q_gb, .inr (0, [.ref q_gbr, .int 0])), (q_gbr, .inl (cB, 65536, .inl (fun _ => 0))), (q_st, .inl (cI, 1100, .inl (fun _ => 0))), (q_nl, .inl (cI, 1100, .inl (fun _ => 0)))] H := hP
  have hD : va_D _ [(b, .inr (2, [.ref q_gb, .ref q_st, .null, .null, .null, .null, .null, .null, .null, .int 0, .int 0])), (q_gb, .inr (0, [.ref q_gbr, .int 0])), (q_gbr, .inl (cB, 65536, .inl (fun _ => 0))), (q_st, .inl (cI, 1100, .inl (fun _ => 0))), (q_nl, .inl (cI, 1100, .inl (fun _ => 0)))] := hD
  refine va_putF (D := D9) (ty := .array (.int)) (ci := 2) (C := R_Ga) (T := F_Ga) (N := 11) hx hb hts i_Ga t_Ga t_Ga_ok n_Ga hown hK hP hD hS 0 rfl rfl 2 (by decide) (hts _ g_64) (fun _ h9 => h9) rfl hin rfl (by decide +kernel) rfl rfl (Nat.le_of_ble_eq_true rfl) d_Ga_init_30 (fun H locs hP hD hS => ?_)
  have hP : va_P D9 cls9 [(b, .inr (2, [.ref q_gb, .ref q_st, .ref q_nl, .null, .null, .null, .null, .null, .null, .int 0, .int 0])), (q_gb, .inr (0, [.ref q_gbr, .int 0])), (q_gbr, .inl (cB, 65536, .inl (fun _ => 0))), (q_st, .inl (cI, 1100, .inl (fun _ => 0))), (q_nl, .inl (cI, 1100, .inl (fun _ => 0)))] H := hP
  have hD : va_D _ [(b, .inr (2, [.ref q_gb, .ref q_st, .ref q_nl, .null, .null, .null, .null, .null, .null, .int 0, .int 0])), (q_gb, .inr (0, [.ref q_gbr, .int 0])), (q_gbr, .inl (cB, 65536, .inl (fun _ => 0))), (q_st, .inl (cI, 1100, .inl (fun _ => 0))), (q_nl, .inl (cI, 1100, .inl (fun _ => 0)))] := hD
  refine lv_aload_n hx hb d_Ga_init_33 rfl (lv_at hl 0 rfl) ?_
  refine lv_sipush (v := 1100) hx hb d_Ga_init_34 (by decide) ?_
  refine mw_newa (D := D9) (atype := .int) (a0 := (1100, .inl (fun _ => 0))) (t := 1) (ty := .int) hx hb (hts _ g_113) rfl (fun _ h => h) hK rfl hP hD hS hA (fun _ => rfl) (by decide) (by decide) (by decide) (by decide) (by decide) d_Ga_init_37 (fun q_dl H hP hD hS => ?_)
  have hP : va_P D9 cls9 [(b, .inr (2, [.ref q_gb, .ref q_st, .ref q_nl, .null, .null, .null, .null, .null, .null, .int 0, .int 0])), (q_gb, .inr (0, [.ref q_gbr, .int 0])), (q_gbr, .inl (cB, 65536, .inl (fun _ => 0))), (q_st, .inl (cI, 1100, .inl (fun _ => 0))), (q_nl, .inl (cI, 1100, .inl (fun _ => 0))), (q_dl, .inl (cI, 1100, .inl (fun _ => 0)))] H := hP
  have hD : va_D _ [(b, .inr (2, [.ref q_gb, .ref q_st, .ref q_nl, .null, .null, .null, .null, .null, .null, .int 0, .int 0])), (q_gb, .inr (0, [.ref q_gbr, .int 0])), (q_gbr, .inl (cB, 65536, .inl (fun _ => 0))), (q_st, .inl (cI, 1100, .inl (fun _ => 0))), (q_nl, .inl (cI, 1100, .inl (fun _ => 0))), (q_dl, .inl (cI, 1100, .inl (fun _ => 0)))] := hD
  refine va_putF (D := D9) (ty := .array (.int)) (ci := 2) (C := R_Ga) (T := F_Ga) (N := 11) hx hb hts i_Ga t_Ga t_Ga_ok n_Ga hown hK hP hD hS 0 rfl rfl 3 (by decide) (hts _ g_67) (fun _ h9 => h9) rfl hin rfl (by decide +kernel) rfl rfl (Nat.le_of_ble_eq_true rfl) d_Ga_init_39 (fun H locs hP hD hS => ?_)
  have hP : va_P D9 cls9 [(b, .inr (2, [.ref q_gb, .ref q_st, .ref q_nl, .ref q_dl, .null, .null, .null, .null, .null, .int 0, .int 0])), (q_gb, .inr (0, [.ref q_gbr, .int 0])), (q_gbr, .inl (cB, 65536, .inl (fun _ => 0))), (q_st, .inl (cI, 1100, .inl (fun _ => 0))), (q_nl, .inl (cI, 1100, .inl (fun _ => 0))), (q_dl, .inl (cI, 1100, .inl (fun _ => 0)))] H := hP
  have hD : va_D _ [(b, .inr (2, [.ref q_gb, .ref q_st, .ref q_nl, .ref q_dl, .null, .null, .null, .null, .null, .int 0, .int 0])), (q_gb, .inr (0, [.ref q_gbr, .int 0])), (q_gbr, .inl (cB, 65536, .inl (fun _ => 0))), (q_st, .inl (cI, 1100, .inl (fun _ => 0))), (q_nl, .inl (cI, 1100, .inl (fun _ => 0))), (q_dl, .inl (cI, 1100, .inl (fun _ => 0)))] := hD
  refine lv_aload_n hx hb d_Ga_init_42 rfl (lv_at hl 0 rfl) ?_
  refine lv_sipush (v := 1100) hx hb d_Ga_init_43 (by decide) ?_
  refine mw_newa (D := D9) (atype := .int) (a0 := (1100, .inl (fun _ => 0))) (t := 1) (ty := .int) hx hb (hts _ g_113) rfl (fun _ h => h) hK rfl hP hD hS hA (fun _ => rfl) (by decide) (by decide) (by decide) (by decide) (by decide) d_Ga_init_46 (fun q_ty H hP hD hS => ?_)
  have hP : va_P D9 cls9 [(b, .inr (2, [.ref q_gb, .ref q_st, .ref q_nl, .ref q_dl, .null, .null, .null, .null, .null, .int 0, .int 0])), (q_gb, .inr (0, [.ref q_gbr, .int 0])), (q_gbr, .inl (cB, 65536, .inl (fun _ => 0))), (q_st, .inl (cI, 1100, .inl (fun _ => 0))), (q_nl, .inl (cI, 1100, .inl (fun _ => 0))), (q_dl, .inl (cI, 1100, .inl (fun _ => 0))), (q_ty, .inl (cI, 1100, .inl (fun _ => 0)))] H := hP
  have hD : va_D _ [(b, .inr (2, [.ref q_gb, .ref q_st, .ref q_nl, .ref q_dl, .null, .null, .null, .null, .null, .int 0, .int 0])), (q_gb, .inr (0, [.ref q_gbr, .int 0])), (q_gbr, .inl (cB, 65536, .inl (fun _ => 0))), (q_st, .inl (cI, 1100, .inl (fun _ => 0))), (q_nl, .inl (cI, 1100, .inl (fun _ => 0))), (q_dl, .inl (cI, 1100, .inl (fun _ => 0))), (q_ty, .inl (cI, 1100, .inl (fun _ => 0)))] := hD
  refine va_putF (D := D9) (ty := .array (.int)) (ci := 2) (C := R_Ga) (T := F_Ga) (N := 11) hx hb hts i_Ga t_Ga t_Ga_ok n_Ga hown hK hP hD hS 0 rfl rfl 4 (by decide) (hts _ g_70) (fun _ h9 => h9) rfl hin rfl (by decide +kernel) rfl rfl (Nat.le_of_ble_eq_true rfl) d_Ga_init_48 (fun H locs hP hD hS => ?_)
  have hP : va_P D9 cls9 [(b, .inr (2, [.ref q_gb, .ref q_st, .ref q_nl, .ref q_dl, .ref q_ty, .null, .null, .null, .null, .int 0, .int 0])), (q_gb, .inr (0, [.ref q_gbr, .int 0])), (q_gbr, .inl (cB, 65536, .inl (fun _ => 0))), (q_st, .inl (cI, 1100, .inl (fun _ => 0))), (q_nl, .inl (cI, 1100, .inl (fun _ => 0))), (q_dl, .inl (cI, 1100, .inl (fun _ => 0))), (q_ty, .inl (cI, 1100, .inl (fun _ => 0)))] H := hP
  have hD : va_D _ [(b, .inr (2, [.ref q_gb, .ref q_st, .ref q_nl, .ref q_dl, .ref q_ty, .null, .null, .null, .null, .int 0, .int 0])), (q_gb, .inr (0, [.ref q_gbr, .int 0])), (q_gbr, .inl (cB, 65536, .inl (fun _ => 0))), (q_st, .inl (cI, 1100, .inl (fun _ => 0))), (q_nl, .inl (cI, 1100, .inl (fun _ => 0))), (q_dl, .inl (cI, 1100, .inl (fun _ => 0))), (q_ty, .inl (cI, 1100, .inl (fun _ => 0)))] := hD
  refine lv_aload_n hx hb d_Ga_init_51 rfl (lv_at hl 0 rfl) ?_
  refine lv_sipush (v := 1100) hx hb d_Ga_init_52 (by decide) ?_
  refine mw_newa (D := D9) (atype := .int) (a0 := (1100, .inl (fun _ => 0))) (t := 1) (ty := .int) hx hb (hts _ g_113) rfl (fun _ h => h) hK rfl hP hD hS hA (fun _ => rfl) (by decide) (by decide) (by decide) (by decide) (by decide) d_Ga_init_55 (fun q_ki H hP hD hS => ?_)
  have hP : va_P D9 cls9 [(b, .inr (2, [.ref q_gb, .ref q_st, .ref q_nl, .ref q_dl, .ref q_ty, .null, .null, .null, .null, .int 0, .int 0])), (q_gb, .inr (0, [.ref q_gbr, .int 0])), (q_gbr, .inl (cB, 65536, .inl (fun _ => 0))), (q_st, .inl (cI, 1100, .inl (fun _ => 0))), (q_nl, .inl (cI, 1100, .inl (fun _ => 0))), (q_dl, .inl (cI, 1100, .inl (fun _ => 0))), (q_ty, .inl (cI, 1100, .inl (fun _ => 0))), (q_ki, .inl (cI, 1100, .inl (fun _ => 0)))] H := hP
  have hD : va_D _ [(b, .inr (2, [.ref q_gb, .ref q_st, .ref q_nl, .ref q_dl, .ref q_ty, .null, .null, .null, .null, .int 0, .int 0])), (q_gb, .inr (0, [.ref q_gbr, .int 0])), (q_gbr, .inl (cB, 65536, .inl (fun _ => 0))), (q_st, .inl (cI, 1100, .inl (fun _ => 0))), (q_nl, .inl (cI, 1100, .inl (fun _ => 0))), (q_dl, .inl (cI, 1100, .inl (fun _ => 0))), (q_ty, .inl (cI, 1100, .inl (fun _ => 0))), (q_ki, .inl (cI, 1100, .inl (fun _ => 0)))] := hD
  refine va_putF (D := D9) (ty := .array (.int)) (ci := 2) (C := R_Ga) (T := F_Ga) (N := 11) hx hb hts i_Ga t_Ga t_Ga_ok n_Ga hown hK hP hD hS 0 rfl rfl 5 (by decide) (hts _ g_73) (fun _ h9 => h9) rfl hin rfl (by decide +kernel) rfl rfl (Nat.le_of_ble_eq_true rfl) d_Ga_init_57 (fun H locs hP hD hS => ?_)
  have hP : va_P D9 cls9 [(b, .inr (2, [.ref q_gb, .ref q_st, .ref q_nl, .ref q_dl, .ref q_ty, .ref q_ki, .null, .null, .null, .int 0, .int 0])), (q_gb, .inr (0, [.ref q_gbr, .int 0])), (q_gbr, .inl (cB, 65536, .inl (fun _ => 0))), (q_st, .inl (cI, 1100, .inl (fun _ => 0))), (q_nl, .inl (cI, 1100, .inl (fun _ => 0))), (q_dl, .inl (cI, 1100, .inl (fun _ => 0))), (q_ty, .inl (cI, 1100, .inl (fun _ => 0))), (q_ki, .inl (cI, 1100, .inl (fun _ => 0)))] H := hP
  have hD : va_D _ [(b, .inr (2, [.ref q_gb, .ref q_st, .ref q_nl, .ref q_dl, .ref q_ty, .ref q_ki, .null, .null, .null, .int 0, .int 0])), (q_gb, .inr (0, [.ref q_gbr, .int 0])), (q_gbr, .inl (cB, 65536, .inl (fun _ => 0))), (q_st, .inl (cI, 1100, .inl (fun _ => 0))), (q_nl, .inl (cI, 1100, .inl (fun _ => 0))), (q_dl, .inl (cI, 1100, .inl (fun _ => 0))), (q_ty, .inl (cI, 1100, .inl (fun _ => 0))), (q_ki, .inl (cI, 1100, .inl (fun _ => 0)))] := hD
  refine lv_aload_n hx hb d_Ga_init_60 rfl (lv_at hl 0 rfl) ?_
  refine lv_sipush (v := 1100) hx hb d_Ga_init_61 (by decide) ?_
  refine mw_newa (D := D9) (atype := .int) (a0 := (1100, .inl (fun _ => 0))) (t := 1) (ty := .int) hx hb (hts _ g_113) rfl (fun _ h => h) hK rfl hP hD hS hA (fun _ => rfl) (by decide) (by decide) (by decide) (by decide) (by decide) d_Ga_init_64 (fun q_ti H hP hD hS => ?_)
  have hP : va_P D9 cls9 [(b, .inr (2, [.ref q_gb, .ref q_st, .ref q_nl, .ref q_dl, .ref q_ty, .ref q_ki, .null, .null, .null, .int 0, .int 0])), (q_gb, .inr (0, [.ref q_gbr, .int 0])), (q_gbr, .inl (cB, 65536, .inl (fun _ => 0))), (q_st, .inl (cI, 1100, .inl (fun _ => 0))), (q_nl, .inl (cI, 1100, .inl (fun _ => 0))), (q_dl, .inl (cI, 1100, .inl (fun _ => 0))), (q_ty, .inl (cI, 1100, .inl (fun _ => 0))), (q_ki, .inl (cI, 1100, .inl (fun _ => 0))), (q_ti, .inl (cI, 1100, .inl (fun _ => 0)))] H := hP
  have hD : va_D _ [(b, .inr (2, [.ref q_gb, .ref q_st, .ref q_nl, .ref q_dl, .ref q_ty, .ref q_ki, .null, .null, .null, .int 0, .int 0])), (q_gb, .inr (0, [.ref q_gbr, .int 0])), (q_gbr, .inl (cB, 65536, .inl (fun _ => 0))), (q_st, .inl (cI, 1100, .inl (fun _ => 0))), (q_nl, .inl (cI, 1100, .inl (fun _ => 0))), (q_dl, .inl (cI, 1100, .inl (fun _ => 0))), (q_ty, .inl (cI, 1100, .inl (fun _ => 0))), (q_ki, .inl (cI, 1100, .inl (fun _ => 0))), (q_ti, .inl (cI, 1100, .inl (fun _ => 0)))] := hD
  refine va_putF (D := D9) (ty := .array (.int)) (ci := 2) (C := R_Ga) (T := F_Ga) (N := 11) hx hb hts i_Ga t_Ga t_Ga_ok n_Ga hown hK hP hD hS 0 rfl rfl 6 (by decide) (hts _ g_76) (fun _ h9 => h9) rfl hin rfl (by decide +kernel) rfl rfl (Nat.le_of_ble_eq_true rfl) d_Ga_init_66 (fun H locs hP hD hS => ?_)
  have hP : va_P D9 cls9 [(b, .inr (2, [.ref q_gb, .ref q_st, .ref q_nl, .ref q_dl, .ref q_ty, .ref q_ki, .ref q_ti, .null, .null, .int 0, .int 0])), (q_gb, .inr (0, [.ref q_gbr, .int 0])), (q_gbr, .inl (cB, 65536, .inl (fun _ => 0))), (q_st, .inl (cI, 1100, .inl (fun _ => 0))), (q_nl, .inl (cI, 1100, .inl (fun _ => 0))), (q_dl, .inl (cI, 1100, .inl (fun _ => 0))), (q_ty, .inl (cI, 1100, .inl (fun _ => 0))), (q_ki, .inl (cI, 1100, .inl (fun _ => 0))), (q_ti, .inl (cI, 1100, .inl (fun _ => 0)))] H := hP
  have hD : va_D _ [(b, .inr (2, [.ref q_gb, .ref q_st, .ref q_nl, .ref q_dl, .ref q_ty, .ref q_ki, .ref q_ti, .null, .null, .int 0, .int 0])), (q_gb, .inr (0, [.ref q_gbr, .int 0])), (q_gbr, .inl (cB, 65536, .inl (fun _ => 0))), (q_st, .inl (cI, 1100, .inl (fun _ => 0))), (q_nl, .inl (cI, 1100, .inl (fun _ => 0))), (q_dl, .inl (cI, 1100, .inl (fun _ => 0))), (q_ty, .inl (cI, 1100, .inl (fun _ => 0))), (q_ki, .inl (cI, 1100, .inl (fun _ => 0))), (q_ti, .inl (cI, 1100, .inl (fun _ => 0)))] := hD
  refine lv_aload_n hx hb d_Ga_init_69 rfl (lv_at hl 0 rfl) ?_
  refine lv_iconst (v := 4) hx hb d_Ga_init_70 (by decide) ?_
  refine lv_sipush (v := 1000) hx hb d_Ga_init_71 (by decide) ?_
  refine mw_mna (D := D9) (tG := 3) (tI := 1) hx hb hown (hts _ g_55) (hts _ g_56) (hts _ g_113) hK rfl rfl hP hD hS hA (by decide) (by decide) d_Ga_init_74 (fun q_rows H hP hD hS => ?_)
  have hP : va_P D9 cls9 [(b, .inr (2, [.ref q_gb, .ref q_st, .ref q_nl, .ref q_dl, .ref q_ty, .ref q_ki, .ref q_ti, .null, .null, .int 0, .int 0])), (q_gb, .inr (0, [.ref q_gbr, .int 0])), (q_gbr, .inl (cB, 65536, .inl (fun _ => 0))), (q_st, .inl (cI, 1100, .inl (fun _ => 0))), (q_nl, .inl (cI, 1100, .inl (fun _ => 0))), (q_dl, .inl (cI, 1100, .inl (fun _ => 0))), (q_ty, .inl (cI, 1100, .inl (fun _ => 0))), (q_ki, .inl (cI, 1100, .inl (fun _ => 0))), (q_ti, .inl (cI, 1100, .inl (fun _ => 0))), (q_rows, .inl (cG, 4, .inr (.inr (.inr (.inr (fun i => if i < 4 then some (q_rows + 1 + i) else none)))))), (q_rows + 1, .inl (cI, 1000, .inl (fun _ => 0))), (q_rows + 2, .inl (cI, 1000, .inl (fun _ => 0))), (q_rows + 3, .inl (cI, 1000, .inl (fun _ => 0))), (q_rows + 4, .inl (cI, 1000, .inl (fun _ => 0)))] H := hP
  have hD : va_D _ [(b, .inr (2, [.ref q_gb, .ref q_st, .ref q_nl, .ref q_dl, .ref q_ty, .ref q_ki, .ref q_ti, .null, .null, .int 0, .int 0])), (q_gb, .inr (0, [.ref q_gbr, .int 0])), (q_gbr, .inl (cB, 65536, .inl (fun _ => 0))), (q_st, .inl (cI, 1100, .inl (fun _ => 0))), (q_nl, .inl (cI, 1100, .inl (fun _ => 0))), (q_dl, .inl (cI, 1100, .inl (fun _ => 0))), (q_ty, .inl (cI, 1100, .inl (fun _ => 0))), (q_ki, .inl (cI, 1100, .inl (fun _ => 0))), (q_ti, .inl (cI, 1100, .inl (fun _ => 0))), (q_rows, .inl (cG, 4, .inr (.inr (.inr (.inr (fun i => if i < 4 then some (q_rows + 1 + i) else none)))))), (q_rows + 1, .inl (cI, 1000, .inl (fun _ => 0))), (q_rows + 2, .inl (cI, 1000, .inl (fun _ => 0))), (q_rows + 3, .inl (cI, 1000, .inl (fun _ => 0))), (q_rows + 4, .inl (cI, 1000, .inl (fun _ => 0)))] := hD
  refine va_putF (D := D9) (ty := .array (.array (.int))) (ci := 2) (C := R_Ga) (T := F_Ga) (N := 11) hx hb hts i_Ga t_Ga t_Ga_ok n_Ga hown hK hP hD hS 0 rfl rfl 7 (by decide) (hts _ g_79) (fun _ h9 => h9) rfl hin rfl (by decide +kernel) rfl rfl (Nat.le_of_ble_eq_true rfl) d_Ga_init_78 (fun H locs hP hD hS => ?_)
  have hP : va_P D9 cls9 [(b, .inr (2, [.ref q_gb, .ref q_st, .ref q_nl, .ref q_dl, .ref q_ty, .ref q_ki, .ref q_ti, .ref q_rows, .null, .int 0, .int 0])), (q_gb, .inr (0, [.ref q_gbr, .int 0])), (q_gbr, .inl (cB, 65536, .inl (fun _ => 0))), (q_st, .inl (cI, 1100, .inl (fun _ => 0))), (q_nl, .inl (cI, 1100, .inl (fun _ => 0))), (q_dl, .inl (cI, 1100, .inl (fun _ => 0))), (q_ty, .inl (cI, 1100, .inl (fun _ => 0))), (q_ki, .inl (cI, 1100, .inl (fun _ => 0))), (q_ti, .inl (cI, 1100, .inl (fun _ => 0))), (q_rows, .inl (cG, 4, .inr (.inr (.inr (.inr (fun i => if i < 4 then some (q_rows + 1 + i) else none)))))), (q_rows + 1, .inl (cI, 1000, .inl (fun _ => 0))), (q_rows + 2, .inl (cI, 1000, .inl (fun _ => 0))), (q_rows + 3, .inl (cI, 1000, .inl (fun _ => 0))), (q_rows + 4, .inl (cI, 1000, .inl (fun _ => 0)))] H := hP
  have hD : va_D _ [(b, .inr (2, [.ref q_gb, .ref q_st, .ref q_nl, .ref q_dl, .ref q_ty, .ref q_ki, .ref q_ti, .ref q_rows, .null, .int 0, .int 0])), (q_gb, .inr (0, [.ref q_gbr, .int 0])), (q_gbr, .inl (cB, 65536, .inl (fun _ => 0))), (q_st, .inl (cI, 1100, .inl (fun _ => 0))), (q_nl, .inl (cI, 1100, .inl (fun _ => 0))), (q_dl, .inl (cI, 1100, .inl (fun _ => 0))), (q_ty, .inl (cI, 1100, .inl (fun _ => 0))), (q_ki, .inl (cI, 1100, .inl (fun _ => 0))), (q_ti, .inl (cI, 1100, .inl (fun _ => 0))), (q_rows, .inl (cG, 4, .inr (.inr (.inr (.inr (fun i => if i < 4 then some (q_rows + 1 + i) else none)))))), (q_rows + 1, .inl (cI, 1000, .inl (fun _ => 0))), (q_rows + 2, .inl (cI, 1000, .inl (fun _ => 0))), (q_rows + 3, .inl (cI, 1000, .inl (fun _ => 0))), (q_rows + 4, .inl (cI, 1000, .inl (fun _ => 0)))] := hD
  refine lv_aload_n hx hb d_Ga_init_81 rfl (lv_at hl 0 rfl) ?_
  refine lv_iconst (v := 4) hx hb d_Ga_init_82 (by decide) ?_
  refine mw_newa (D := D9) (atype := .int) (a0 := (4, .inl (fun _ => 0))) (t := 1) (ty := .int) hx hb (hts _ g_113) rfl (fun _ h => h) hK rfl hP hD hS hA (fun _ => rfl) (by decide) (by decide) (by decide) (by decide) (by decide) d_Ga_init_83 (fun q_sz H hP hD hS => ?_)
  have hP : va_P D9 cls9 [(b, .inr (2, [.ref q_gb, .ref q_st, .ref q_nl, .ref q_dl, .ref q_ty, .ref q_ki, .ref q_ti, .ref q_rows, .null, .int 0, .int 0])), (q_gb, .inr (0, [.ref q_gbr, .int 0])), (q_gbr, .inl (cB, 65536, .inl (fun _ => 0))), (q_st, .inl (cI, 1100, .inl (fun _ => 0))), (q_nl, .inl (cI, 1100, .inl (fun _ => 0))), (q_dl, .inl (cI, 1100, .inl (fun _ => 0))), (q_ty, .inl (cI, 1100, .inl (fun _ => 0))), (q_ki, .inl (cI, 1100, .inl (fun _ => 0))), (q_ti, .inl (cI, 1100, .inl (fun _ => 0))), (q_rows, .inl (cG, 4, .inr (.inr (.inr (.inr (fun i => if i < 4 then some (q_rows + 1 + i) else none)))))), (q_rows + 1, .inl (cI, 1000, .inl (fun _ => 0))), (q_rows + 2, .inl (cI, 1000, .inl (fun _ => 0))), (q_rows + 3, .inl (cI, 1000, .inl (fun _ => 0))), (q_rows + 4, .inl (cI, 1000, .inl (fun _ => 0))), (q_sz, .inl (cI, 4, .inl (fun _ => 0)))] H := hP
  have hD : va_D _ [(b, .inr (2, [.ref q_gb, .ref q_st, .ref q_nl, .ref q_dl, .ref q_ty, .ref q_ki, .ref q_ti, .ref q_rows, .null, .int 0, .int 0])), (q_gb, .inr (0, [.ref q_gbr, .int 0])), (q_gbr, .inl (cB, 65536, .inl (fun _ => 0))), (q_st, .inl (cI, 1100, .inl (fun _ => 0))), (q_nl, .inl (cI, 1100, .inl (fun _ => 0))), (q_dl, .inl (cI, 1100, .inl (fun _ => 0))), (q_ty, .inl (cI, 1100, .inl (fun _ => 0))), (q_ki, .inl (cI, 1100, .inl (fun _ => 0))), (q_ti, .inl (cI, 1100, .inl (fun _ => 0))), (q_rows, .inl (cG, 4, .inr (.inr (.inr (.inr (fun i => if i < 4 then some (q_rows + 1 + i) else none)))))), (q_rows + 1, .inl (cI, 1000, .inl (fun _ => 0))), (q_rows + 2, .inl (cI, 1000, .inl (fun _ => 0))), (q_rows + 3, .inl (cI, 1000, .inl (fun _ => 0))), (q_rows + 4, .inl (cI, 1000, .inl (fun _ => 0))), (q_sz, .inl (cI, 4, .inl (fun _ => 0)))] := hD
  refine va_putF (D := D9) (ty := .array (.int)) (ci := 2) (C := R_Ga) (T := F_Ga) (N := 11) hx hb hts i_Ga t_Ga t_Ga_ok n_Ga hown hK hP hD hS 0 rfl rfl 8 (by decide) (hts _ g_81) (fun _ h9 => h9) rfl hin rfl (by decide +kernel) rfl rfl (Nat.le_of_ble_eq_true rfl) d_Ga_init_85 (fun H locs hP hD hS => ?_)
  have hP : va_P D9 cls9 [(b, .inr (2, [.ref q_gb, .ref q_st, .ref q_nl, .ref q_dl, .ref q_ty, .ref q_ki, .ref q_ti, .ref q_rows, .ref q_sz, .int 0, .int 0])), (q_gb, .inr (0, [.ref q_gbr, .int 0])), (q_gbr, .inl (cB, 65536, .inl (fun _ => 0))), (q_st, .inl (cI, 1100, .inl (fun _ => 0))), (q_nl, .inl (cI, 1100, .inl (fun _ => 0))), (q_dl, .inl (cI, 1100, .inl (fun _ => 0))), (q_ty, .inl (cI, 1100, .inl (fun _ => 0))), (q_ki, .inl (cI, 1100, .inl (fun _ => 0))), (q_ti, .inl (cI, 1100, .inl (fun _ => 0))), (q_rows, .inl (cG, 4, .inr (.inr (.inr (.inr (fun i => if i < 4 then some (q_rows + 1 + i) else none)))))), (q_rows + 1, .inl (cI, 1000, .inl (fun _ => 0))), (q_rows + 2, .inl (cI, 1000, .inl (fun _ => 0))), (q_rows + 3, .inl (cI, 1000, .inl (fun _ => 0))), (q_rows + 4, .inl (cI, 1000, .inl (fun _ => 0))), (q_sz, .inl (cI, 4, .inl (fun _ => 0)))] H := hP
  have hD : va_D _ [(b, .inr (2, [.ref q_gb, .ref q_st, .ref q_nl, .ref q_dl, .ref q_ty, .ref q_ki, .ref q_ti, .ref q_rows, .ref q_sz, .int 0, .int 0])), (q_gb, .inr (0, [.ref q_gbr, .int 0])), (q_gbr, .inl (cB, 65536, .inl (fun _ => 0))), (q_st, .inl (cI, 1100, .inl (fun _ => 0))), (q_nl, .inl (cI, 1100, .inl (fun _ => 0))), (q_dl, .inl (cI, 1100, .inl (fun _ => 0))), (q_ty, .inl (cI, 1100, .inl (fun _ => 0))), (q_ki, .inl (cI, 1100, .inl (fun _ => 0))), (q_ti, .inl (cI, 1100, .inl (fun _ => 0))), (q_rows, .inl (cG, 4, .inr (.inr (.inr (.inr (fun i => if i < 4 then some (q_rows + 1 + i) else none)))))), (q_rows + 1, .inl (cI, 1000, .inl (fun _ => 0))), (q_rows + 2, .inl (cI, 1000, .inl (fun _ => 0))), (q_rows + 3, .inl (cI, 1000, .inl (fun _ => 0))), (q_rows + 4, .inl (cI, 1000, .inl (fun _ => 0))), (q_sz, .inl (cI, 4, .inl (fun _ => 0)))] := hD
  exact mw_vret hx hb hr hlocks hS hP hD (by decide) (by decide) d_Ga_init_88 (⟨rfl, q_gb, q_gbr, q_st, q_nl, q_dl, q_ty, q_ki, q_ti, q_rows, q_sz, rfl⟩)
set_option maxHeartbeats 4000000 in
set_option maxRecDepth 100000 in
theorem c_Re_init (l : Launch) (D9 : va_G) (cB cI cJ cG : ClassId) (b tp ga : Nat) : MW l D9 cls9 (ty9 cB cI cJ cG) y_Re_init b_Re_init 3 none (rm9 1 0 0) [.ref b, .ref tp, .ref ga] [(b, .inr (4, [.null, .null, .int 0, .int 0, .int 0, .int 0, .int 0, .int 0]))] (fun v w2 => v = none ∧ w2 = [(b, .inr (4, [.ref tp, .ref ga, .int 0, .int 0, .int 0, .int 0, .int 0, .int 0]))]) 0 0 := by
  refine mw_of (by decide) (Nat.le_of_ble_eq_true rfl) ?_
  intro p e s m below meth c ls C0 hin hP hD hA hS hl
  obtain ⟨hx, hb, hml, hr, hlocks, hown, hts, hK⟩ := id C0
  have hl : lv_has ls 3 [(0, .ref b), (1, .ref tp), (2, .ref ga)] := hl
  refine lv_aload_n hx hb d_Re_init_0 rfl (lv_at hl 0 rfl) ?_
  refine W.objInit hx hb hown (hts _ g_119) (hts _ g_26) (hts _ g_27) rfl (by rw [hml]; exact hl.1) rfl d_Re_init_1 (Nat.le_of_ble_eq_true rfl) (Nat.le_of_ble_eq_true rfl) ?_
  refine W.eq (g2 := F0 m 4 ls []) rfl ?_
  refine lv_aload_n hx hb d_Re_init_4 rfl (lv_at hl 0 rfl) ?_
  refine lv_aload_n hx hb d_Re_init_5 rfl (lv_at hl 1 rfl) ?_
  refine va_putF (D := D9) (ty := .object "WireMessages$Bytes") (ci := 4) (C := R_Re) (T := F_Re) (N := 8) hx hb hts i_Re t_Re t_Re_ok n_Re hown hK hP hD hS 0 rfl rfl 0 (by decide) (hts _ g_120) (fun _ h9 => h9) rfl hin rfl (by decide +kernel) rfl rfl (Nat.le_of_ble_eq_true rfl) d_Re_init_6 (fun H locs hP hD hS => ?_)
  have hP : va_P D9 cls9 [(b, .inr (4, [.ref tp, .null, .int 0, .int 0, .int 0, .int 0, .int 0, .int 0]))] H := hP
  have hD : va_D _ [(b, .inr (4, [.ref tp, .null, .int 0, .int 0, .int 0, .int 0, .int 0, .int 0]))] := hD
  refine lv_aload_n hx hb d_Re_init_9 rfl (lv_at hl 0 rfl) ?_
  refine lv_aload_n hx hb d_Re_init_10 rfl (lv_at hl 2 rfl) ?_
  refine va_putF (D := D9) (ty := .object "WireMessages$Gathered") (ci := 4) (C := R_Re) (T := F_Re) (N := 8) hx hb hts i_Re t_Re t_Re_ok n_Re hown hK hP hD hS 0 rfl rfl 1 (by decide) (hts _ g_121) (fun _ h9 => h9) rfl hin rfl (by decide +kernel) rfl rfl (Nat.le_of_ble_eq_true rfl) d_Re_init_11 (fun H locs hP hD hS => ?_)
  have hP : va_P D9 cls9 [(b, .inr (4, [.ref tp, .ref ga, .int 0, .int 0, .int 0, .int 0, .int 0, .int 0]))] H := hP
  have hD : va_D _ [(b, .inr (4, [.ref tp, .ref ga, .int 0, .int 0, .int 0, .int 0, .int 0, .int 0]))] := hD
  exact mw_vret hx hb hr hlocks hS hP hD (by decide) (by decide) d_Re_init_14 (⟨rfl, rfl⟩)
set_option maxHeartbeats 4000000 in
set_option maxRecDepth 100000 in
theorem c_Na_init (l : Launch) (D9 : va_G) (cB cI cJ cG : ClassId) (b sr : Nat) : MW l D9 cls9 (ty9 cB cI cJ cG) y_Na_init b_Na_init 2 none (rm9 1 2 254) [.ref b, .ref sr] [(b, .inr (3, [.null, .null, .null]))] (fun v w2 => v = none ∧ ∃ q_lb q_ob, w2 = [(b, .inr (3, [.ref sr, .ref q_lb, .ref q_ob])), (q_lb, .inl (cI, 127, .inl (fun _ => 0))), (q_ob, .inl (cI, 127, .inl (fun _ => 0)))]) 2 254 := by
  refine mw_of (by decide) (Nat.le_of_ble_eq_true rfl) ?_
  intro p e s m below meth c ls C0 hin hP hD hA hS hl
  obtain ⟨hx, hb, hml, hr, hlocks, hown, hts, hK⟩ := id C0
  have hl : lv_has ls 2 [(0, .ref b), (1, .ref sr)] := hl
  refine lv_aload_n hx hb d_Na_init_0 rfl (lv_at hl 0 rfl) ?_
  refine W.objInit hx hb hown (hts _ g_211) (hts _ g_26) (hts _ g_27) rfl (by rw [hml]; exact hl.1) rfl d_Na_init_1 (Nat.le_of_ble_eq_true rfl) (Nat.le_of_ble_eq_true rfl) ?_
  refine W.eq (g2 := F0 m 4 ls []) rfl ?_
  refine lv_aload_n hx hb d_Na_init_4 rfl (lv_at hl 0 rfl) ?_
  refine lv_bipush (v := 127) hx hb d_Na_init_5 (by decide) ?_
  refine mw_newa (D := D9) (atype := .int) (a0 := (127, .inl (fun _ => 0))) (t := 1) (ty := .int) hx hb (hts _ g_113) rfl (fun _ h => h) hK rfl hP hD hS hA (fun _ => rfl) (by decide) (by decide) (by decide) (by decide) (by decide) d_Na_init_7 (fun q_lb H hP hD hS => ?_)
  have hP : va_P D9 cls9 [(b, .inr (3, [.null, .null, .null])), (q_lb, .inl (cI, 127, .inl (fun _ => 0)))] H := hP
  have hD : va_D _ [(b, .inr (3, [.null, .null, .null])), (q_lb, .inl (cI, 127, .inl (fun _ => 0)))] := hD
  refine va_putF (D := D9) (ty := .array (.int)) (ci := 3) (C := R_Na) (T := F_Na) (N := 3) hx hb hts i_Na t_Na t_Na_ok n_Na hown hK hP hD hS 0 rfl rfl 1 (by decide) (hts _ g_213) (fun _ h9 => h9) rfl hin rfl (by decide +kernel) rfl rfl (Nat.le_of_ble_eq_true rfl) d_Na_init_9 (fun H locs hP hD hS => ?_)
  have hP : va_P D9 cls9 [(b, .inr (3, [.null, .ref q_lb, .null])), (q_lb, .inl (cI, 127, .inl (fun _ => 0)))] H := hP
  have hD : va_D _ [(b, .inr (3, [.null, .ref q_lb, .null])), (q_lb, .inl (cI, 127, .inl (fun _ => 0)))] := hD
  refine lv_aload_n hx hb d_Na_init_12 rfl (lv_at hl 0 rfl) ?_
  refine lv_bipush (v := 127) hx hb d_Na_init_13 (by decide) ?_
  refine mw_newa (D := D9) (atype := .int) (a0 := (127, .inl (fun _ => 0))) (t := 1) (ty := .int) hx hb (hts _ g_113) rfl (fun _ h => h) hK rfl hP hD hS hA (fun _ => rfl) (by decide) (by decide) (by decide) (by decide) (by decide) d_Na_init_15 (fun q_ob H hP hD hS => ?_)
  have hP : va_P D9 cls9 [(b, .inr (3, [.null, .ref q_lb, .null])), (q_lb, .inl (cI, 127, .inl (fun _ => 0))), (q_ob, .inl (cI, 127, .inl (fun _ => 0)))] H := hP
  have hD : va_D _ [(b, .inr (3, [.null, .ref q_lb, .null])), (q_lb, .inl (cI, 127, .inl (fun _ => 0))), (q_ob, .inl (cI, 127, .inl (fun _ => 0)))] := hD
  refine va_putF (D := D9) (ty := .array (.int)) (ci := 3) (C := R_Na) (T := F_Na) (N := 3) hx hb hts i_Na t_Na t_Na_ok n_Na hown hK hP hD hS 0 rfl rfl 2 (by decide) (hts _ g_214) (fun _ h9 => h9) rfl hin rfl (by decide +kernel) rfl rfl (Nat.le_of_ble_eq_true rfl) d_Na_init_17 (fun H locs hP hD hS => ?_)
  have hP : va_P D9 cls9 [(b, .inr (3, [.null, .ref q_lb, .ref q_ob])), (q_lb, .inl (cI, 127, .inl (fun _ => 0))), (q_ob, .inl (cI, 127, .inl (fun _ => 0)))] H := hP
  have hD : va_D _ [(b, .inr (3, [.null, .ref q_lb, .ref q_ob])), (q_lb, .inl (cI, 127, .inl (fun _ => 0))), (q_ob, .inl (cI, 127, .inl (fun _ => 0)))] := hD
  refine lv_aload_n hx hb d_Na_init_20 rfl (lv_at hl 0 rfl) ?_
  refine lv_aload_n hx hb d_Na_init_21 rfl (lv_at hl 1 rfl) ?_
  refine va_putF (D := D9) (ty := .object "WireMessages$Bytes") (ci := 3) (C := R_Na) (T := F_Na) (N := 3) hx hb hts i_Na t_Na t_Na_ok n_Na hown hK hP hD hS 0 rfl rfl 0 (by decide) (hts _ g_212) (fun _ h9 => h9) rfl hin rfl (by decide +kernel) rfl rfl (Nat.le_of_ble_eq_true rfl) d_Na_init_22 (fun H locs hP hD hS => ?_)
  have hP : va_P D9 cls9 [(b, .inr (3, [.ref sr, .ref q_lb, .ref q_ob])), (q_lb, .inl (cI, 127, .inl (fun _ => 0))), (q_ob, .inl (cI, 127, .inl (fun _ => 0)))] H := hP
  have hD : va_D _ [(b, .inr (3, [.ref sr, .ref q_lb, .ref q_ob])), (q_lb, .inl (cI, 127, .inl (fun _ => 0))), (q_ob, .inl (cI, 127, .inl (fun _ => 0)))] := hD
  exact mw_vret hx hb hr hlocks hS hP hD (by decide) (by decide) d_Na_init_25 (⟨rfl, q_lb, q_ob, rfl⟩)
set_option maxHeartbeats 4000000 in
set_option maxRecDepth 100000 in
theorem c_En_init (l : Launch) (D9 : va_G) (cB cI cJ cG : ClassId) (b sr : Nat) : MW l D9 cls9 (ty9 cB cI cJ cG) y_En_init b_En_init 2 none (rm9 1 5 36864) [.ref b, .ref sr] [(b, .inr (1, [.null, .null, .null, .null, .null, .null, .int 0]))] (fun v w2 => v = none ∧ ∃ q_ne q_ol q_mk q_pl q_so, w2 = [(b, .inr (1, [.ref sr, .ref q_ne, .ref q_ol, .ref q_mk, .ref q_pl, .ref q_so, .int 0])), (q_ne, .inl (cI, 4096, .inl (fun _ => 0))), (q_ol, .inl (cI, 8192, .inl (fun _ => 0))), (q_mk, .inl (cI, 8192, .inl (fun _ => 0))), (q_pl, .inl (cI, 8192, .inl (fun _ => 0))), (q_so, .inl (cI, 8192, .inl (fun _ => 0)))]) 5 36864 := by
  refine mw_of (by decide) (Nat.le_of_ble_eq_true rfl) ?_
  intro p e s m below meth c ls C0 hin hP hD hA hS hl
  obtain ⟨hx, hb, hml, hr, hlocks, hown, hts, hK⟩ := id C0
  have hl : lv_has ls 2 [(0, .ref b), (1, .ref sr)] := hl
  refine lv_aload_n hx hb d_En_init_0 rfl (lv_at hl 0 rfl) ?_
  refine W.objInit hx hb hown (hts _ g_161) (hts _ g_26) (hts _ g_27) rfl (by rw [hml]; exact hl.1) rfl d_En_init_1 (Nat.le_of_ble_eq_true rfl) (Nat.le_of_ble_eq_true rfl) ?_
  refine W.eq (g2 := F0 m 4 ls []) rfl ?_
  refine lv_aload_n hx hb d_En_init_4 rfl (lv_at hl 0 rfl) ?_
  refine lv_sipush (v := 4096) hx hb d_En_init_5 (by decide) ?_
  refine mw_newa (D := D9) (atype := .int) (a0 := (4096, .inl (fun _ => 0))) (t := 1) (ty := .int) hx hb (hts _ g_113) rfl (fun _ h => h) hK rfl hP hD hS hA (fun _ => rfl) (by decide) (by decide) (by decide) (by decide) (by decide) d_En_init_8 (fun q_ne H hP hD hS => ?_)
  have hP : va_P D9 cls9 [(b, .inr (1, [.null, .null, .null, .null, .null, .null, .int 0])), (q_ne, .inl (cI, 4096, .inl (fun _ => 0)))] H := hP
  have hD : va_D _ [(b, .inr (1, [.null, .null, .null, .null, .null, .null, .int 0])), (q_ne, .inl (cI, 4096, .inl (fun _ => 0)))] := hD
  refine va_putF (D := D9) (ty := .array (.int)) (ci := 1) (C := R_En) (T := F_En) (N := 7) hx hb hts i_En t_En t_En_ok n_En hown hK hP hD hS 0 rfl rfl 1 (by decide) (hts _ g_163) (fun _ h9 => h9) rfl hin rfl (by decide +kernel) rfl rfl (Nat.le_of_ble_eq_true rfl) d_En_init_10 (fun H locs hP hD hS => ?_)
  have hP : va_P D9 cls9 [(b, .inr (1, [.null, .ref q_ne, .null, .null, .null, .null, .int 0])), (q_ne, .inl (cI, 4096, .inl (fun _ => 0)))] H := hP
  have hD : va_D _ [(b, .inr (1, [.null, .ref q_ne, .null, .null, .null, .null, .int 0])), (q_ne, .inl (cI, 4096, .inl (fun _ => 0)))] := hD
  refine lv_aload_n hx hb d_En_init_13 rfl (lv_at hl 0 rfl) ?_
  refine lv_sipush (v := 8192) hx hb d_En_init_14 (by decide) ?_
  refine mw_newa (D := D9) (atype := .int) (a0 := (8192, .inl (fun _ => 0))) (t := 1) (ty := .int) hx hb (hts _ g_113) rfl (fun _ h => h) hK rfl hP hD hS hA (fun _ => rfl) (by decide) (by decide) (by decide) (by decide) (by decide) d_En_init_17 (fun q_ol H hP hD hS => ?_)
  have hP : va_P D9 cls9 [(b, .inr (1, [.null, .ref q_ne, .null, .null, .null, .null, .int 0])), (q_ne, .inl (cI, 4096, .inl (fun _ => 0))), (q_ol, .inl (cI, 8192, .inl (fun _ => 0)))] H := hP
  have hD : va_D _ [(b, .inr (1, [.null, .ref q_ne, .null, .null, .null, .null, .int 0])), (q_ne, .inl (cI, 4096, .inl (fun _ => 0))), (q_ol, .inl (cI, 8192, .inl (fun _ => 0)))] := hD
  refine va_putF (D := D9) (ty := .array (.int)) (ci := 1) (C := R_En) (T := F_En) (N := 7) hx hb hts i_En t_En t_En_ok n_En hown hK hP hD hS 0 rfl rfl 2 (by decide) (hts _ g_164) (fun _ h9 => h9) rfl hin rfl (by decide +kernel) rfl rfl (Nat.le_of_ble_eq_true rfl) d_En_init_19 (fun H locs hP hD hS => ?_)
  have hP : va_P D9 cls9 [(b, .inr (1, [.null, .ref q_ne, .ref q_ol, .null, .null, .null, .int 0])), (q_ne, .inl (cI, 4096, .inl (fun _ => 0))), (q_ol, .inl (cI, 8192, .inl (fun _ => 0)))] H := hP
  have hD : va_D _ [(b, .inr (1, [.null, .ref q_ne, .ref q_ol, .null, .null, .null, .int 0])), (q_ne, .inl (cI, 4096, .inl (fun _ => 0))), (q_ol, .inl (cI, 8192, .inl (fun _ => 0)))] := hD
  refine lv_aload_n hx hb d_En_init_22 rfl (lv_at hl 0 rfl) ?_
  refine lv_sipush (v := 8192) hx hb d_En_init_23 (by decide) ?_
  refine mw_newa (D := D9) (atype := .int) (a0 := (8192, .inl (fun _ => 0))) (t := 1) (ty := .int) hx hb (hts _ g_113) rfl (fun _ h => h) hK rfl hP hD hS hA (fun _ => rfl) (by decide) (by decide) (by decide) (by decide) (by decide) d_En_init_26 (fun q_mk H hP hD hS => ?_)
  have hP : va_P D9 cls9 [(b, .inr (1, [.null, .ref q_ne, .ref q_ol, .null, .null, .null, .int 0])), (q_ne, .inl (cI, 4096, .inl (fun _ => 0))), (q_ol, .inl (cI, 8192, .inl (fun _ => 0))), (q_mk, .inl (cI, 8192, .inl (fun _ => 0)))] H := hP
  have hD : va_D _ [(b, .inr (1, [.null, .ref q_ne, .ref q_ol, .null, .null, .null, .int 0])), (q_ne, .inl (cI, 4096, .inl (fun _ => 0))), (q_ol, .inl (cI, 8192, .inl (fun _ => 0))), (q_mk, .inl (cI, 8192, .inl (fun _ => 0)))] := hD
  refine va_putF (D := D9) (ty := .array (.int)) (ci := 1) (C := R_En) (T := F_En) (N := 7) hx hb hts i_En t_En t_En_ok n_En hown hK hP hD hS 0 rfl rfl 3 (by decide) (hts _ g_165) (fun _ h9 => h9) rfl hin rfl (by decide +kernel) rfl rfl (Nat.le_of_ble_eq_true rfl) d_En_init_28 (fun H locs hP hD hS => ?_)
  have hP : va_P D9 cls9 [(b, .inr (1, [.null, .ref q_ne, .ref q_ol, .ref q_mk, .null, .null, .int 0])), (q_ne, .inl (cI, 4096, .inl (fun _ => 0))), (q_ol, .inl (cI, 8192, .inl (fun _ => 0))), (q_mk, .inl (cI, 8192, .inl (fun _ => 0)))] H := hP
  have hD : va_D _ [(b, .inr (1, [.null, .ref q_ne, .ref q_ol, .ref q_mk, .null, .null, .int 0])), (q_ne, .inl (cI, 4096, .inl (fun _ => 0))), (q_ol, .inl (cI, 8192, .inl (fun _ => 0))), (q_mk, .inl (cI, 8192, .inl (fun _ => 0)))] := hD
  refine lv_aload_n hx hb d_En_init_31 rfl (lv_at hl 0 rfl) ?_
  refine lv_sipush (v := 8192) hx hb d_En_init_32 (by decide) ?_
  refine mw_newa (D := D9) (atype := .int) (a0 := (8192, .inl (fun _ => 0))) (t := 1) (ty := .int) hx hb (hts _ g_113) rfl (fun _ h => h) hK rfl hP hD hS hA (fun _ => rfl) (by decide) (by decide) (by decide) (by decide) (by decide) d_En_init_35 (fun q_pl H hP hD hS => ?_)
  have hP : va_P D9 cls9 [(b, .inr (1, [.null, .ref q_ne, .ref q_ol, .ref q_mk, .null, .null, .int 0])), (q_ne, .inl (cI, 4096, .inl (fun _ => 0))), (q_ol, .inl (cI, 8192, .inl (fun _ => 0))), (q_mk, .inl (cI, 8192, .inl (fun _ => 0))), (q_pl, .inl (cI, 8192, .inl (fun _ => 0)))] H := hP
  have hD : va_D _ [(b, .inr (1, [.null, .ref q_ne, .ref q_ol, .ref q_mk, .null, .null, .int 0])), (q_ne, .inl (cI, 4096, .inl (fun _ => 0))), (q_ol, .inl (cI, 8192, .inl (fun _ => 0))), (q_mk, .inl (cI, 8192, .inl (fun _ => 0))), (q_pl, .inl (cI, 8192, .inl (fun _ => 0)))] := hD
  refine va_putF (D := D9) (ty := .array (.int)) (ci := 1) (C := R_En) (T := F_En) (N := 7) hx hb hts i_En t_En t_En_ok n_En hown hK hP hD hS 0 rfl rfl 4 (by decide) (hts _ g_166) (fun _ h9 => h9) rfl hin rfl (by decide +kernel) rfl rfl (Nat.le_of_ble_eq_true rfl) d_En_init_37 (fun H locs hP hD hS => ?_)
  have hP : va_P D9 cls9 [(b, .inr (1, [.null, .ref q_ne, .ref q_ol, .ref q_mk, .ref q_pl, .null, .int 0])), (q_ne, .inl (cI, 4096, .inl (fun _ => 0))), (q_ol, .inl (cI, 8192, .inl (fun _ => 0))), (q_mk, .inl (cI, 8192, .inl (fun _ => 0))), (q_pl, .inl (cI, 8192, .inl (fun _ => 0)))] H := hP
  have hD : va_D _ [(b, .inr (1, [.null, .ref q_ne, .ref q_ol, .ref q_mk, .ref q_pl, .null, .int 0])), (q_ne, .inl (cI, 4096, .inl (fun _ => 0))), (q_ol, .inl (cI, 8192, .inl (fun _ => 0))), (q_mk, .inl (cI, 8192, .inl (fun _ => 0))), (q_pl, .inl (cI, 8192, .inl (fun _ => 0)))] := hD
  refine lv_aload_n hx hb d_En_init_40 rfl (lv_at hl 0 rfl) ?_
  refine lv_sipush (v := 8192) hx hb d_En_init_41 (by decide) ?_
  refine mw_newa (D := D9) (atype := .int) (a0 := (8192, .inl (fun _ => 0))) (t := 1) (ty := .int) hx hb (hts _ g_113) rfl (fun _ h => h) hK rfl hP hD hS hA (fun _ => rfl) (by decide) (by decide) (by decide) (by decide) (by decide) d_En_init_44 (fun q_so H hP hD hS => ?_)
  have hP : va_P D9 cls9 [(b, .inr (1, [.null, .ref q_ne, .ref q_ol, .ref q_mk, .ref q_pl, .null, .int 0])), (q_ne, .inl (cI, 4096, .inl (fun _ => 0))), (q_ol, .inl (cI, 8192, .inl (fun _ => 0))), (q_mk, .inl (cI, 8192, .inl (fun _ => 0))), (q_pl, .inl (cI, 8192, .inl (fun _ => 0))), (q_so, .inl (cI, 8192, .inl (fun _ => 0)))] H := hP
  have hD : va_D _ [(b, .inr (1, [.null, .ref q_ne, .ref q_ol, .ref q_mk, .ref q_pl, .null, .int 0])), (q_ne, .inl (cI, 4096, .inl (fun _ => 0))), (q_ol, .inl (cI, 8192, .inl (fun _ => 0))), (q_mk, .inl (cI, 8192, .inl (fun _ => 0))), (q_pl, .inl (cI, 8192, .inl (fun _ => 0))), (q_so, .inl (cI, 8192, .inl (fun _ => 0)))] := hD
  refine va_putF (D := D9) (ty := .array (.int)) (ci := 1) (C := R_En) (T := F_En) (N := 7) hx hb hts i_En t_En t_En_ok n_En hown hK hP hD hS 0 rfl rfl 5 (by decide) (hts _ g_167) (fun _ h9 => h9) rfl hin rfl (by decide +kernel) rfl rfl (Nat.le_of_ble_eq_true rfl) d_En_init_46 (fun H locs hP hD hS => ?_)
  have hP : va_P D9 cls9 [(b, .inr (1, [.null, .ref q_ne, .ref q_ol, .ref q_mk, .ref q_pl, .ref q_so, .int 0])), (q_ne, .inl (cI, 4096, .inl (fun _ => 0))), (q_ol, .inl (cI, 8192, .inl (fun _ => 0))), (q_mk, .inl (cI, 8192, .inl (fun _ => 0))), (q_pl, .inl (cI, 8192, .inl (fun _ => 0))), (q_so, .inl (cI, 8192, .inl (fun _ => 0)))] H := hP
  have hD : va_D _ [(b, .inr (1, [.null, .ref q_ne, .ref q_ol, .ref q_mk, .ref q_pl, .ref q_so, .int 0])), (q_ne, .inl (cI, 4096, .inl (fun _ => 0))), (q_ol, .inl (cI, 8192, .inl (fun _ => 0))), (q_mk, .inl (cI, 8192, .inl (fun _ => 0))), (q_pl, .inl (cI, 8192, .inl (fun _ => 0))), (q_so, .inl (cI, 8192, .inl (fun _ => 0)))] := hD
  refine lv_aload_n hx hb d_En_init_49 rfl (lv_at hl 0 rfl) ?_
  refine lv_aload_n hx hb d_En_init_50 rfl (lv_at hl 1 rfl) ?_
  refine va_putF (D := D9) (ty := .object "WireMessages$Bytes") (ci := 1) (C := R_En) (T := F_En) (N := 7) hx hb hts i_En t_En t_En_ok n_En hown hK hP hD hS 0 rfl rfl 0 (by decide) (hts _ g_162) (fun _ h9 => h9) rfl hin rfl (by decide +kernel) rfl rfl (Nat.le_of_ble_eq_true rfl) d_En_init_51 (fun H locs hP hD hS => ?_)
  have hP : va_P D9 cls9 [(b, .inr (1, [.ref sr, .ref q_ne, .ref q_ol, .ref q_mk, .ref q_pl, .ref q_so, .int 0])), (q_ne, .inl (cI, 4096, .inl (fun _ => 0))), (q_ol, .inl (cI, 8192, .inl (fun _ => 0))), (q_mk, .inl (cI, 8192, .inl (fun _ => 0))), (q_pl, .inl (cI, 8192, .inl (fun _ => 0))), (q_so, .inl (cI, 8192, .inl (fun _ => 0)))] H := hP
  have hD : va_D _ [(b, .inr (1, [.ref sr, .ref q_ne, .ref q_ol, .ref q_mk, .ref q_pl, .ref q_so, .int 0])), (q_ne, .inl (cI, 4096, .inl (fun _ => 0))), (q_ol, .inl (cI, 8192, .inl (fun _ => 0))), (q_mk, .inl (cI, 8192, .inl (fun _ => 0))), (q_pl, .inl (cI, 8192, .inl (fun _ => 0))), (q_so, .inl (cI, 8192, .inl (fun _ => 0)))] := hD
  exact mw_vret hx hb hr hlocks hS hP hD (by decide) (by decide) d_En_init_54 (⟨rfl, q_ne, q_ol, q_mk, q_pl, q_so, rfl⟩)
set_option maxHeartbeats 4000000 in
set_option maxRecDepth 100000 in
theorem c_Wr_init (l : Launch) (D9 : va_G) (cB cI cJ cG : ClassId) (b ga gb : Nat) (gt : List Value) : MW l D9 cls9 (ty9 cB cI cJ cG) y_Wr_init b_Wr_init 2 none (rm9 2 10 102663) [.ref b, .ref ga] [(b, .inr (5, [.null, .null, .null, .null, .null, .int 0])), (ga, .inr (2, (.ref gb :: gt)))] (fun v w2 => v = none ∧ ∃ q_ms q_msr q_ls q_lm q_en q_ne q_ol q_mk q_pl q_so, w2 = [(b, .inr (5, [.ref ga, .ref q_ms, .ref q_en, .ref q_ls, .ref q_lm, .int 0])), (ga, .inr (2, (.ref gb :: gt))), (q_ms, .inr (0, [.ref q_msr, .int 0])), (q_msr, .inl (cB, 65536, .inl (fun _ => 0))), (q_ls, .inl (cI, 127, .inl (fun _ => 0))), (q_lm, .inl (cI, 127, .inl (fun _ => 0))), (q_en, .inr (1, [.ref gb, .ref q_ne, .ref q_ol, .ref q_mk, .ref q_pl, .ref q_so, .int 0])), (q_ne, .inl (cI, 4096, .inl (fun _ => 0))), (q_ol, .inl (cI, 8192, .inl (fun _ => 0))), (q_mk, .inl (cI, 8192, .inl (fun _ => 0))), (q_pl, .inl (cI, 8192, .inl (fun _ => 0))), (q_so, .inl (cI, 8192, .inl (fun _ => 0)))]) 10 102663 := by
  refine mw_of (by decide) (Nat.le_of_ble_eq_true rfl) ?_
  intro p e s m below meth c ls C0 hin hP hD hA hS hl
  obtain ⟨hx, hb, hml, hr, hlocks, hown, hts, hK⟩ := id C0
  have hl : lv_has ls 2 [(0, .ref b), (1, .ref ga)] := hl
  refine lv_aload_n hx hb d_Wr_init_0 rfl (lv_at hl 0 rfl) ?_
  refine W.objInit hx hb hown (hts _ g_153) (hts _ g_26) (hts _ g_27) rfl (by rw [hml]; exact hl.1) rfl d_Wr_init_1 (Nat.le_of_ble_eq_true rfl) (Nat.le_of_ble_eq_true rfl) ?_
  refine W.eq (g2 := F0 m 4 ls []) rfl ?_
  refine lv_aload_n hx hb d_Wr_init_4 rfl (lv_at hl 0 rfl) ?_
  refine va_new (D := D9) (ci := 0) (fs := [.null, .int 0]) (C := R_By) (T := F_By) (N := 2) hx hb hts i_By t_By t_By_ok hown (hts _ g_154) (hts _ g_29) (hts _ g_2) hK hP hD hS hA rfl (fun j hj => by rcases (show j = 0 ∨ j = 1 by omega) with rfl | rfl <;> rfl) (by decide) (by decide) d_Wr_init_5 (fun q_ms H hP hD hS => ?_)
  have hP : va_P D9 cls9 [(b, .inr (5, [.null, .null, .null, .null, .null, .int 0])), (ga, .inr (2, (.ref gb :: gt))), (q_ms, .inr (0, [.null, .int 0]))] H := hP
  have hD : va_D _ [(b, .inr (5, [.null, .null, .null, .null, .null, .int 0])), (ga, .inr (2, (.ref gb :: gt))), (q_ms, .inr (0, [.null, .int 0]))] := hD
  refine lv_dup hx hb d_Wr_init_8 rfl ?_
  refine mf_cIN (wr := [_, _]) C0 (c_By_init l D9 cB cI cJ cG q_ms) g_32 g_2 g_155 g_31 rfl ⟨by decide +kernel, by decide +kernel, show Option.map (fun d => d.parameters.length) (parseMethodDescriptor y_By_init.desc) = some 0 by decide +kernel⟩ ⟨by decide, by decide⟩ rfl rfl hP hD hS hA [2] [0, 1] rfl rfl (by decide) (by decide) (by decide) hl.1 (Nat.le_of_ble_eq_true rfl) rfl d_Wr_init_9 ⟨by decide, by decide⟩ (fun v9 w9 H locs hq hP hD hS => ?_)
  obtain ⟨rfl, q_msr, hw9⟩ := hq
  rw [hw9] at hP hD
  have hP : va_P D9 cls9 [(b, .inr (5, [.null, .null, .null, .null, .null, .int 0])), (ga, .inr (2, (.ref gb :: gt))), (q_ms, .inr (0, [.ref q_msr, .int 0])), (q_msr, .inl (cB, 65536, .inl (fun _ => 0)))] H := hP
  have hD : va_D _ [(b, .inr (5, [.null, .null, .null, .null, .null, .int 0])), (ga, .inr (2, (.ref gb :: gt))), (q_ms, .inr (0, [.ref q_msr, .int 0])), (q_msr, .inl (cB, 65536, .inl (fun _ => 0)))] := hD
  refine va_putF (D := D9) (ty := .object "WireMessages$Bytes") (ci := 5) (C := R_Wr) (T := F_Wr) (N := 6) hx hb hts i_Wr t_Wr t_Wr_ok n_Wr hown hK hP hD hS 0 rfl rfl 1 (by decide) (hts _ g_186) (fun _ h9 => h9) rfl hin rfl (by decide +kernel) rfl rfl (Nat.le_of_ble_eq_true rfl) d_Wr_init_12 (fun H locs hP hD hS => ?_)
  have hP : va_P D9 cls9 [(b, .inr (5, [.null, .ref q_ms, .null, .null, .null, .int 0])), (ga, .inr (2, (.ref gb :: gt))), (q_ms, .inr (0, [.ref q_msr, .int 0])), (q_msr, .inl (cB, 65536, .inl (fun _ => 0)))] H := hP
  have hD : va_D _ [(b, .inr (5, [.null, .ref q_ms, .null, .null, .null, .int 0])), (ga, .inr (2, (.ref gb :: gt))), (q_ms, .inr (0, [.ref q_msr, .int 0])), (q_msr, .inl (cB, 65536, .inl (fun _ => 0)))] := hD
  refine lv_aload_n hx hb d_Wr_init_15 rfl (lv_at hl 0 rfl) ?_
  refine lv_bipush (v := 127) hx hb d_Wr_init_16 (by decide) ?_
  refine mw_newa (D := D9) (atype := .int) (a0 := (127, .inl (fun _ => 0))) (t := 1) (ty := .int) hx hb (hts _ g_113) rfl (fun _ h => h) hK rfl hP hD hS hA (fun _ => rfl) (by decide) (by decide) (by decide) (by decide) (by decide) d_Wr_init_18 (fun q_ls H hP hD hS => ?_)
  have hP : va_P D9 cls9 [(b, .inr (5, [.null, .ref q_ms, .null, .null, .null, .int 0])), (ga, .inr (2, (.ref gb :: gt))), (q_ms, .inr (0, [.ref q_msr, .int 0])), (q_msr, .inl (cB, 65536, .inl (fun _ => 0))), (q_ls, .inl (cI, 127, .inl (fun _ => 0)))] H := hP
  have hD : va_D _ [(b, .inr (5, [.null, .ref q_ms, .null, .null, .null, .int 0])), (ga, .inr (2, (.ref gb :: gt))), (q_ms, .inr (0, [.ref q_msr, .int 0])), (q_msr, .inl (cB, 65536, .inl (fun _ => 0))), (q_ls, .inl (cI, 127, .inl (fun _ => 0)))] := hD
  refine va_putF (D := D9) (ty := .array (.int)) (ci := 5) (C := R_Wr) (T := F_Wr) (N := 6) hx hb hts i_Wr t_Wr t_Wr_ok n_Wr hown hK hP hD hS 0 rfl rfl 3 (by decide) (hts _ g_189) (fun _ h9 => h9) rfl hin rfl (by decide +kernel) rfl rfl (Nat.le_of_ble_eq_true rfl) d_Wr_init_20 (fun H locs hP hD hS => ?_)
  have hP : va_P D9 cls9 [(b, .inr (5, [.null, .ref q_ms, .null, .ref q_ls, .null, .int 0])), (ga, .inr (2, (.ref gb :: gt))), (q_ms, .inr (0, [.ref q_msr, .int 0])), (q_msr, .inl (cB, 65536, .inl (fun _ => 0))), (q_ls, .inl (cI, 127, .inl (fun _ => 0)))] H := hP
  have hD : va_D _ [(b, .inr (5, [.null, .ref q_ms, .null, .ref q_ls, .null, .int 0])), (ga, .inr (2, (.ref gb :: gt))), (q_ms, .inr (0, [.ref q_msr, .int 0])), (q_msr, .inl (cB, 65536, .inl (fun _ => 0))), (q_ls, .inl (cI, 127, .inl (fun _ => 0)))] := hD
  refine lv_aload_n hx hb d_Wr_init_23 rfl (lv_at hl 0 rfl) ?_
  refine lv_bipush (v := 127) hx hb d_Wr_init_24 (by decide) ?_
  refine mw_newa (D := D9) (atype := .int) (a0 := (127, .inl (fun _ => 0))) (t := 1) (ty := .int) hx hb (hts _ g_113) rfl (fun _ h => h) hK rfl hP hD hS hA (fun _ => rfl) (by decide) (by decide) (by decide) (by decide) (by decide) d_Wr_init_26 (fun q_lm H hP hD hS => ?_)
  have hP : va_P D9 cls9 [(b, .inr (5, [.null, .ref q_ms, .null, .ref q_ls, .null, .int 0])), (ga, .inr (2, (.ref gb :: gt))), (q_ms, .inr (0, [.ref q_msr, .int 0])), (q_msr, .inl (cB, 65536, .inl (fun _ => 0))), (q_ls, .inl (cI, 127, .inl (fun _ => 0))), (q_lm, .inl (cI, 127, .inl (fun _ => 0)))] H := hP
  have hD : va_D _ [(b, .inr (5, [.null, .ref q_ms, .null, .ref q_ls, .null, .int 0])), (ga, .inr (2, (.ref gb :: gt))), (q_ms, .inr (0, [.ref q_msr, .int 0])), (q_msr, .inl (cB, 65536, .inl (fun _ => 0))), (q_ls, .inl (cI, 127, .inl (fun _ => 0))), (q_lm, .inl (cI, 127, .inl (fun _ => 0)))] := hD
  refine va_putF (D := D9) (ty := .array (.int)) (ci := 5) (C := R_Wr) (T := F_Wr) (N := 6) hx hb hts i_Wr t_Wr t_Wr_ok n_Wr hown hK hP hD hS 0 rfl rfl 4 (by decide) (hts _ g_190) (fun _ h9 => h9) rfl hin rfl (by decide +kernel) rfl rfl (Nat.le_of_ble_eq_true rfl) d_Wr_init_28 (fun H locs hP hD hS => ?_)
  have hP : va_P D9 cls9 [(b, .inr (5, [.null, .ref q_ms, .null, .ref q_ls, .ref q_lm, .int 0])), (ga, .inr (2, (.ref gb :: gt))), (q_ms, .inr (0, [.ref q_msr, .int 0])), (q_msr, .inl (cB, 65536, .inl (fun _ => 0))), (q_ls, .inl (cI, 127, .inl (fun _ => 0))), (q_lm, .inl (cI, 127, .inl (fun _ => 0)))] H := hP
  have hD : va_D _ [(b, .inr (5, [.null, .ref q_ms, .null, .ref q_ls, .ref q_lm, .int 0])), (ga, .inr (2, (.ref gb :: gt))), (q_ms, .inr (0, [.ref q_msr, .int 0])), (q_msr, .inl (cB, 65536, .inl (fun _ => 0))), (q_ls, .inl (cI, 127, .inl (fun _ => 0))), (q_lm, .inl (cI, 127, .inl (fun _ => 0)))] := hD
  refine lv_aload_n hx hb d_Wr_init_31 rfl (lv_at hl 0 rfl) ?_
  refine lv_aload_n hx hb d_Wr_init_32 rfl (lv_at hl 1 rfl) ?_
  refine va_putF (D := D9) (ty := .object "WireMessages$Gathered") (ci := 5) (C := R_Wr) (T := F_Wr) (N := 6) hx hb hts i_Wr t_Wr t_Wr_ok n_Wr hown hK hP hD hS 0 rfl rfl 0 (by decide) (hts _ g_185) (fun _ h9 => h9) rfl hin rfl (by decide +kernel) rfl rfl (Nat.le_of_ble_eq_true rfl) d_Wr_init_33 (fun H locs hP hD hS => ?_)
  have hP : va_P D9 cls9 [(b, .inr (5, [.ref ga, .ref q_ms, .null, .ref q_ls, .ref q_lm, .int 0])), (ga, .inr (2, (.ref gb :: gt))), (q_ms, .inr (0, [.ref q_msr, .int 0])), (q_msr, .inl (cB, 65536, .inl (fun _ => 0))), (q_ls, .inl (cI, 127, .inl (fun _ => 0))), (q_lm, .inl (cI, 127, .inl (fun _ => 0)))] H := hP
  have hD : va_D _ [(b, .inr (5, [.ref ga, .ref q_ms, .null, .ref q_ls, .ref q_lm, .int 0])), (ga, .inr (2, (.ref gb :: gt))), (q_ms, .inr (0, [.ref q_msr, .int 0])), (q_msr, .inl (cB, 65536, .inl (fun _ => 0))), (q_ls, .inl (cI, 127, .inl (fun _ => 0))), (q_lm, .inl (cI, 127, .inl (fun _ => 0)))] := hD
  refine lv_aload_n hx hb d_Wr_init_36 rfl (lv_at hl 0 rfl) ?_
  refine va_new (D := D9) (ci := 1) (fs := [.null, .null, .null, .null, .null, .null, .int 0]) (C := R_En) (T := F_En) (N := 7) hx hb hts i_En t_En t_En_ok hown (hts _ g_156) (hts _ g_157) (hts _ g_6) hK hP hD hS hA rfl (fun j hj => by rcases (show j = 0 ∨ j = 1 ∨ j = 2 ∨ j = 3 ∨ j = 4 ∨ j = 5 ∨ j = 6 by omega) with rfl | rfl | rfl | rfl | rfl | rfl | rfl <;> rfl) (by decide) (by decide) d_Wr_init_37 (fun q_en H hP hD hS => ?_)
  have hP : va_P D9 cls9 [(b, .inr (5, [.ref ga, .ref q_ms, .null, .ref q_ls, .ref q_lm, .int 0])), (ga, .inr (2, (.ref gb :: gt))), (q_ms, .inr (0, [.ref q_msr, .int 0])), (q_msr, .inl (cB, 65536, .inl (fun _ => 0))), (q_ls, .inl (cI, 127, .inl (fun _ => 0))), (q_lm, .inl (cI, 127, .inl (fun _ => 0))), (q_en, .inr (1, [.null, .null, .null, .null, .null, .null, .int 0]))] H := hP
  have hD : va_D _ [(b, .inr (5, [.ref ga, .ref q_ms, .null, .ref q_ls, .ref q_lm, .int 0])), (ga, .inr (2, (.ref gb :: gt))), (q_ms, .inr (0, [.ref q_msr, .int 0])), (q_msr, .inl (cB, 65536, .inl (fun _ => 0))), (q_ls, .inl (cI, 127, .inl (fun _ => 0))), (q_lm, .inl (cI, 127, .inl (fun _ => 0))), (q_en, .inr (1, [.null, .null, .null, .null, .null, .null, .int 0]))] := hD
  refine lv_dup hx hb d_Wr_init_40 rfl ?_
  refine lv_aload_n hx hb d_Wr_init_41 rfl (lv_at hl 1 rfl) ?_
  refine va_getN (D := D9) (ci := 2) (C := R_Ga) (T := F_Ga) (N := 11) hx hb hts i_Ga hown hK hP 1 rfl rfl 0 (by decide) (hts _ g_58) (fun _ h9 => h9) rfl d_Wr_init_42 ?_
  refine mf_cIN (wr := [_, _, _, _, _, _]) C0 (c_En_init l D9 cB cI cJ cG q_en gb) g_160 g_6 g_158 g_159 rfl ⟨by decide +kernel, by decide +kernel, show Option.map (fun d => d.parameters.length) (parseMethodDescriptor y_En_init.desc) = some 1 by decide +kernel⟩ ⟨by decide, by decide⟩ rfl rfl hP hD hS hA [6] [0, 1, 2, 3, 4, 5] rfl rfl (by decide) (by decide) (by decide) hl.1 (Nat.le_of_ble_eq_true rfl) rfl d_Wr_init_45 ⟨by decide, by decide⟩ (fun v9 w9 H locs hq hP hD hS => ?_)
  obtain ⟨rfl, q_ne, q_ol, q_mk, q_pl, q_so, hw9⟩ := hq
  rw [hw9] at hP hD
  have hP : va_P D9 cls9 [(b, .inr (5, [.ref ga, .ref q_ms, .null, .ref q_ls, .ref q_lm, .int 0])), (ga, .inr (2, (.ref gb :: gt))), (q_ms, .inr (0, [.ref q_msr, .int 0])), (q_msr, .inl (cB, 65536, .inl (fun _ => 0))), (q_ls, .inl (cI, 127, .inl (fun _ => 0))), (q_lm, .inl (cI, 127, .inl (fun _ => 0))), (q_en, .inr (1, [.ref gb, .ref q_ne, .ref q_ol, .ref q_mk, .ref q_pl, .ref q_so, .int 0])), (q_ne, .inl (cI, 4096, .inl (fun _ => 0))), (q_ol, .inl (cI, 8192, .inl (fun _ => 0))), (q_mk, .inl (cI, 8192, .inl (fun _ => 0))), (q_pl, .inl (cI, 8192, .inl (fun _ => 0))), (q_so, .inl (cI, 8192, .inl (fun _ => 0)))] H := hP
  have hD : va_D _ [(b, .inr (5, [.ref ga, .ref q_ms, .null, .ref q_ls, .ref q_lm, .int 0])), (ga, .inr (2, (.ref gb :: gt))), (q_ms, .inr (0, [.ref q_msr, .int 0])), (q_msr, .inl (cB, 65536, .inl (fun _ => 0))), (q_ls, .inl (cI, 127, .inl (fun _ => 0))), (q_lm, .inl (cI, 127, .inl (fun _ => 0))), (q_en, .inr (1, [.ref gb, .ref q_ne, .ref q_ol, .ref q_mk, .ref q_pl, .ref q_so, .int 0])), (q_ne, .inl (cI, 4096, .inl (fun _ => 0))), (q_ol, .inl (cI, 8192, .inl (fun _ => 0))), (q_mk, .inl (cI, 8192, .inl (fun _ => 0))), (q_pl, .inl (cI, 8192, .inl (fun _ => 0))), (q_so, .inl (cI, 8192, .inl (fun _ => 0)))] := hD
  refine va_putF (D := D9) (ty := .object "WireMessages$Ends") (ci := 5) (C := R_Wr) (T := F_Wr) (N := 6) hx hb hts i_Wr t_Wr t_Wr_ok n_Wr hown hK hP hD hS 0 rfl rfl 2 (by decide) (hts _ g_188) (fun _ h9 => h9) rfl hin rfl (by decide +kernel) rfl rfl (Nat.le_of_ble_eq_true rfl) d_Wr_init_48 (fun H locs hP hD hS => ?_)
  have hP : va_P D9 cls9 [(b, .inr (5, [.ref ga, .ref q_ms, .ref q_en, .ref q_ls, .ref q_lm, .int 0])), (ga, .inr (2, (.ref gb :: gt))), (q_ms, .inr (0, [.ref q_msr, .int 0])), (q_msr, .inl (cB, 65536, .inl (fun _ => 0))), (q_ls, .inl (cI, 127, .inl (fun _ => 0))), (q_lm, .inl (cI, 127, .inl (fun _ => 0))), (q_en, .inr (1, [.ref gb, .ref q_ne, .ref q_ol, .ref q_mk, .ref q_pl, .ref q_so, .int 0])), (q_ne, .inl (cI, 4096, .inl (fun _ => 0))), (q_ol, .inl (cI, 8192, .inl (fun _ => 0))), (q_mk, .inl (cI, 8192, .inl (fun _ => 0))), (q_pl, .inl (cI, 8192, .inl (fun _ => 0))), (q_so, .inl (cI, 8192, .inl (fun _ => 0)))] H := hP
  have hD : va_D _ [(b, .inr (5, [.ref ga, .ref q_ms, .ref q_en, .ref q_ls, .ref q_lm, .int 0])), (ga, .inr (2, (.ref gb :: gt))), (q_ms, .inr (0, [.ref q_msr, .int 0])), (q_msr, .inl (cB, 65536, .inl (fun _ => 0))), (q_ls, .inl (cI, 127, .inl (fun _ => 0))), (q_lm, .inl (cI, 127, .inl (fun _ => 0))), (q_en, .inr (1, [.ref gb, .ref q_ne, .ref q_ol, .ref q_mk, .ref q_pl, .ref q_so, .int 0])), (q_ne, .inl (cI, 4096, .inl (fun _ => 0))), (q_ol, .inl (cI, 8192, .inl (fun _ => 0))), (q_mk, .inl (cI, 8192, .inl (fun _ => 0))), (q_pl, .inl (cI, 8192, .inl (fun _ => 0))), (q_so, .inl (cI, 8192, .inl (fun _ => 0)))] := hD
  exact mw_vret hx hb hr hlocks hS hP hD (by decide) (by decide) d_Wr_init_51 (⟨rfl, q_ms, q_msr, q_ls, q_lm, q_en, q_ne, q_ol, q_mk, q_pl, q_so, rfl⟩)
set_option maxHeartbeats 4000000 in
set_option maxRecDepth 100000 in
theorem c_Wm_init (l : Launch) (D9 : va_G) (cB cI cJ cG : ClassId) (b : Nat) : MW l D9 cls9 (ty9 cB cI cJ cG) y_Wm_init b_Wm_init 1 none (rm9 3 32 244629) [.ref b] [(b, .inr (6, [.null, .null, .null, .null, .null, .int 0, .int 0]))] (fun v w2 => v = none ∧ ∃ q_tp q_tpr q_ga q_gb q_gbr q_st q_nl q_dl q_ty q_ki q_ti q_rows q_sz q_re q_wr q_ms q_msr q_ls q_lm q_en q_ne q_ol q_mk q_pl q_so q_na q_lb q_ob, w2 = [(b, .inr (6, [.ref q_tp, .ref q_ga, .ref q_re, .ref q_wr, .ref q_na, .int (-1), .int (0)])), (q_tp, .inr (0, [.ref q_tpr, .int 0])), (q_tpr, .inl (cB, 65536, .inl (fun _ => 0))), (q_gb, .inr (0, [.ref q_gbr, .int 0])), (q_gbr, .inl (cB, 65536, .inl (fun _ => 0))), (q_st, .inl (cI, 1100, .inl (fun _ => 0))), (q_nl, .inl (cI, 1100, .inl (fun _ => 0))), (q_dl, .inl (cI, 1100, .inl (fun _ => 0))), (q_ty, .inl (cI, 1100, .inl (fun _ => 0))), (q_ki, .inl (cI, 1100, .inl (fun _ => 0))), (q_ti, .inl (cI, 1100, .inl (fun _ => 0))), (q_rows, .inl (cG, 4, .inr (.inr (.inr (.inr (fun i => if i < 4 then some (q_rows + 1 + i) else none)))))), (q_rows + 1, .inl (cI, 1000, .inl (fun _ => 0))), (q_rows + 2, .inl (cI, 1000, .inl (fun _ => 0))), (q_rows + 3, .inl (cI, 1000, .inl (fun _ => 0))), (q_rows + 4, .inl (cI, 1000, .inl (fun _ => 0))), (q_sz, .inl (cI, 4, .inl (fun _ => 0))), (q_re, .inr (4, [.ref q_tp, .ref q_ga, .int 0, .int 0, .int 0, .int 0, .int 0, .int 0])), (q_wr, .inr (5, [.ref q_ga, .ref q_ms, .ref q_en, .ref q_ls, .ref q_lm, .int 0])), (q_ga, .inr (2, [.ref q_gb, .ref q_st, .ref q_nl, .ref q_dl, .ref q_ty, .ref q_ki, .ref q_ti, .ref q_rows, .ref q_sz, .int 0, .int 0])), (q_ms, .inr (0, [.ref q_msr, .int 0])), (q_msr, .inl (cB, 65536, .inl (fun _ => 0))), (q_ls, .inl (cI, 127, .inl (fun _ => 0))), (q_lm, .inl (cI, 127, .inl (fun _ => 0))), (q_en, .inr (1, [.ref q_gb, .ref q_ne, .ref q_ol, .ref q_mk, .ref q_pl, .ref q_so, .int 0])), (q_ne, .inl (cI, 4096, .inl (fun _ => 0))), (q_ol, .inl (cI, 8192, .inl (fun _ => 0))), (q_mk, .inl (cI, 8192, .inl (fun _ => 0))), (q_pl, .inl (cI, 8192, .inl (fun _ => 0))), (q_so, .inl (cI, 8192, .inl (fun _ => 0))), (q_na, .inr (3, [.ref q_gb, .ref q_lb, .ref q_ob])), (q_lb, .inl (cI, 127, .inl (fun _ => 0))), (q_ob, .inl (cI, 127, .inl (fun _ => 0)))]) 32 244629 := by
  refine mw_of (by decide) (Nat.le_of_ble_eq_true rfl) ?_
  intro p e s m below meth c ls C0 hin hP hD hA hS hl
  obtain ⟨hx, hb, hml, hr, hlocks, hown, hts, hK⟩ := id C0
  have hl : lv_has ls 1 [(0, .ref b)] := hl
  refine lv_aload_n hx hb d_Wm_init_0 rfl (lv_at hl 0 rfl) ?_
  refine W.objInit hx hb hown (hts _ g_25) (hts _ g_26) (hts _ g_27) rfl (by rw [hml]; exact hl.1) rfl d_Wm_init_1 (Nat.le_of_ble_eq_true rfl) (Nat.le_of_ble_eq_true rfl) ?_
  refine W.eq (g2 := F0 m 4 ls []) rfl ?_
  refine lv_aload_n hx hb d_Wm_init_4 rfl (lv_at hl 0 rfl) ?_
  refine va_new (D := D9) (ci := 0) (fs := [.null, .int 0]) (C := R_By) (T := F_By) (N := 2) hx hb hts i_By t_By t_By_ok hown (hts _ g_28) (hts _ g_29) (hts _ g_2) hK hP hD hS hA rfl (fun j hj => by rcases (show j = 0 ∨ j = 1 by omega) with rfl | rfl <;> rfl) (by decide) (by decide) d_Wm_init_5 (fun q_tp H hP hD hS => ?_)
  have hP : va_P D9 cls9 [(b, .inr (6, [.null, .null, .null, .null, .null, .int 0, .int 0])), (q_tp, .inr (0, [.null, .int 0]))] H := hP
  have hD : va_D _ [(b, .inr (6, [.null, .null, .null, .null, .null, .int 0, .int 0])), (q_tp, .inr (0, [.null, .int 0]))] := hD
  refine lv_dup hx hb d_Wm_init_8 rfl ?_
  refine mf_cIN (wr := [_]) C0 (c_By_init l D9 cB cI cJ cG q_tp) g_32 g_2 g_30 g_31 rfl ⟨by decide +kernel, by decide +kernel, show Option.map (fun d => d.parameters.length) (parseMethodDescriptor y_By_init.desc) = some 0 by decide +kernel⟩ ⟨by decide, by decide⟩ rfl rfl hP hD hS hA [1] [0] rfl rfl (by decide) (by decide) (by decide) hl.1 (Nat.le_of_ble_eq_true rfl) rfl d_Wm_init_9 ⟨by decide, by decide⟩ (fun v9 w9 H locs hq hP hD hS => ?_)
  obtain ⟨rfl, q_tpr, hw9⟩ := hq
  rw [hw9] at hP hD
  have hP : va_P D9 cls9 [(b, .inr (6, [.null, .null, .null, .null, .null, .int 0, .int 0])), (q_tp, .inr (0, [.ref q_tpr, .int 0])), (q_tpr, .inl (cB, 65536, .inl (fun _ => 0)))] H := hP
  have hD : va_D _ [(b, .inr (6, [.null, .null, .null, .null, .null, .int 0, .int 0])), (q_tp, .inr (0, [.ref q_tpr, .int 0])), (q_tpr, .inl (cB, 65536, .inl (fun _ => 0)))] := hD
  refine va_putF (D := D9) (ty := .object "WireMessages$Bytes") (ci := 6) (C := R_Wm) (T := F_Wm) (N := 7) hx hb hts i_Wm t_Wm t_Wm_ok n_Wm hown hK hP hD hS 0 rfl rfl 0 (by decide) (hts _ g_222) (fun _ h9 => h9) rfl hin rfl (by decide +kernel) rfl rfl (Nat.le_of_ble_eq_true rfl) d_Wm_init_12 (fun H locs hP hD hS => ?_)
  have hP : va_P D9 cls9 [(b, .inr (6, [.ref q_tp, .null, .null, .null, .null, .int 0, .int 0])), (q_tp, .inr (0, [.ref q_tpr, .int 0])), (q_tpr, .inl (cB, 65536, .inl (fun _ => 0)))] H := hP
  have hD : va_D _ [(b, .inr (6, [.ref q_tp, .null, .null, .null, .null, .int 0, .int 0])), (q_tp, .inr (0, [.ref q_tpr, .int 0])), (q_tpr, .inl (cB, 65536, .inl (fun _ => 0)))] := hD
  refine lv_aload_n hx hb d_Wm_init_15 rfl (lv_at hl 0 rfl) ?_
  refine va_new (D := D9) (ci := 2) (fs := [.null, .null, .null, .null, .null, .null, .null, .null, .null, .int 0, .int 0]) (C := R_Ga) (T := F_Ga) (N := 11) hx hb hts i_Ga t_Ga t_Ga_ok hown (hts _ g_47) (hts _ g_48) (hts _ g_3) hK hP hD hS hA rfl (fun j hj => by rcases (show j = 0 ∨ j = 1 ∨ j = 2 ∨ j = 3 ∨ j = 4 ∨ j = 5 ∨ j = 6 ∨ j = 7 ∨ j = 8 ∨ j = 9 ∨ j = 10 by omega) with rfl | rfl | rfl | rfl | rfl | rfl | rfl | rfl | rfl | rfl | rfl <;> rfl) (by decide) (by decide) d_Wm_init_16 (fun q_ga H hP hD hS => ?_)
  have hP : va_P D9 cls9 [(b, .inr (6, [.ref q_tp, .null, .null, .null, .null, .int 0, .int 0])), (q_tp, .inr (0, [.ref q_tpr, .int 0])), (q_tpr, .inl (cB, 65536, .inl (fun _ => 0))), (q_ga, .inr (2, [.null, .null, .null, .null, .null, .null, .null, .null, .null, .int 0, .int 0]))] H := hP
  have hD : va_D _ [(b, .inr (6, [.ref q_tp, .null, .null, .null, .null, .int 0, .int 0])), (q_tp, .inr (0, [.ref q_tpr, .int 0])), (q_tpr, .inl (cB, 65536, .inl (fun _ => 0))), (q_ga, .inr (2, [.null, .null, .null, .null, .null, .null, .null, .null, .null, .int 0, .int 0]))] := hD
  refine lv_dup hx hb d_Wm_init_19 rfl ?_
  refine mf_cIN (wr := [_, _, _]) C0 (c_Ga_init l D9 cB cI cJ cG q_ga) g_51 g_3 g_49 g_50 rfl ⟨by decide +kernel, by decide +kernel, show Option.map (fun d => d.parameters.length) (parseMethodDescriptor y_Ga_init.desc) = some 0 by decide +kernel⟩ ⟨by decide, by decide⟩ rfl rfl hP hD hS hA [3] [0, 1, 2] rfl rfl (by decide) (by decide) (by decide) hl.1 (Nat.le_of_ble_eq_true rfl) rfl d_Wm_init_20 ⟨by decide, by decide⟩ (fun v9 w9 H locs hq hP hD hS => ?_)
  obtain ⟨rfl, q_gb, q_gbr, q_st, q_nl, q_dl, q_ty, q_ki, q_ti, q_rows, q_sz, hw9⟩ := hq
  rw [hw9] at hP hD
  have hP : va_P D9 cls9 [(b, .inr (6, [.ref q_tp, .null, .null, .null, .null, .int 0, .int 0])), (q_tp, .inr (0, [.ref q_tpr, .int 0])), (q_tpr, .inl (cB, 65536, .inl (fun _ => 0))), (q_ga, .inr (2, [.ref q_gb, .ref q_st, .ref q_nl, .ref q_dl, .ref q_ty, .ref q_ki, .ref q_ti, .ref q_rows, .ref q_sz, .int 0, .int 0])), (q_gb, .inr (0, [.ref q_gbr, .int 0])), (q_gbr, .inl (cB, 65536, .inl (fun _ => 0))), (q_st, .inl (cI, 1100, .inl (fun _ => 0))), (q_nl, .inl (cI, 1100, .inl (fun _ => 0))), (q_dl, .inl (cI, 1100, .inl (fun _ => 0))), (q_ty, .inl (cI, 1100, .inl (fun _ => 0))), (q_ki, .inl (cI, 1100, .inl (fun _ => 0))), (q_ti, .inl (cI, 1100, .inl (fun _ => 0))), (q_rows, .inl (cG, 4, .inr (.inr (.inr (.inr (fun i => if i < 4 then some (q_rows + 1 + i) else none)))))), (q_rows + 1, .inl (cI, 1000, .inl (fun _ => 0))), (q_rows + 2, .inl (cI, 1000, .inl (fun _ => 0))), (q_rows + 3, .inl (cI, 1000, .inl (fun _ => 0))), (q_rows + 4, .inl (cI, 1000, .inl (fun _ => 0))), (q_sz, .inl (cI, 4, .inl (fun _ => 0)))] H := hP
  have hD : va_D _ [(b, .inr (6, [.ref q_tp, .null, .null, .null, .null, .int 0, .int 0])), (q_tp, .inr (0, [.ref q_tpr, .int 0])), (q_tpr, .inl (cB, 65536, .inl (fun _ => 0))), (q_ga, .inr (2, [.ref q_gb, .ref q_st, .ref q_nl, .ref q_dl, .ref q_ty, .ref q_ki, .ref q_ti, .ref q_rows, .ref q_sz, .int 0, .int 0])), (q_gb, .inr (0, [.ref q_gbr, .int 0])), (q_gbr, .inl (cB, 65536, .inl (fun _ => 0))), (q_st, .inl (cI, 1100, .inl (fun _ => 0))), (q_nl, .inl (cI, 1100, .inl (fun _ => 0))), (q_dl, .inl (cI, 1100, .inl (fun _ => 0))), (q_ty, .inl (cI, 1100, .inl (fun _ => 0))), (q_ki, .inl (cI, 1100, .inl (fun _ => 0))), (q_ti, .inl (cI, 1100, .inl (fun _ => 0))), (q_rows, .inl (cG, 4, .inr (.inr (.inr (.inr (fun i => if i < 4 then some (q_rows + 1 + i) else none)))))), (q_rows + 1, .inl (cI, 1000, .inl (fun _ => 0))), (q_rows + 2, .inl (cI, 1000, .inl (fun _ => 0))), (q_rows + 3, .inl (cI, 1000, .inl (fun _ => 0))), (q_rows + 4, .inl (cI, 1000, .inl (fun _ => 0))), (q_sz, .inl (cI, 4, .inl (fun _ => 0)))] := hD
  refine va_putF (D := D9) (ty := .object "WireMessages$Gathered") (ci := 6) (C := R_Wm) (T := F_Wm) (N := 7) hx hb hts i_Wm t_Wm t_Wm_ok n_Wm hown hK hP hD hS 0 rfl rfl 1 (by decide) (hts _ g_223) (fun _ h9 => h9) rfl hin rfl (by decide +kernel) rfl rfl (Nat.le_of_ble_eq_true rfl) d_Wm_init_23 (fun H locs hP hD hS => ?_)
  have hP : va_P D9 cls9 [(b, .inr (6, [.ref q_tp, .ref q_ga, .null, .null, .null, .int 0, .int 0])), (q_tp, .inr (0, [.ref q_tpr, .int 0])), (q_tpr, .inl (cB, 65536, .inl (fun _ => 0))), (q_ga, .inr (2, [.ref q_gb, .ref q_st, .ref q_nl, .ref q_dl, .ref q_ty, .ref q_ki, .ref q_ti, .ref q_rows, .ref q_sz, .int 0, .int 0])), (q_gb, .inr (0, [.ref q_gbr, .int 0])), (q_gbr, .inl (cB, 65536, .inl (fun _ => 0))), (q_st, .inl (cI, 1100, .inl (fun _ => 0))), (q_nl, .inl (cI, 1100, .inl (fun _ => 0))), (q_dl, .inl (cI, 1100, .inl (fun _ => 0))), (q_ty, .inl (cI, 1100, .inl (fun _ => 0))), (q_ki, .inl (cI, 1100, .inl (fun _ => 0))), (q_ti, .inl (cI, 1100, .inl (fun _ => 0))), (q_rows, .inl (cG, 4, .inr (.inr (.inr (.inr (fun i => if i < 4 then some (q_rows + 1 + i) else none)))))), (q_rows + 1, .inl (cI, 1000, .inl (fun _ => 0))), (q_rows + 2, .inl (cI, 1000, .inl (fun _ => 0))), (q_rows + 3, .inl (cI, 1000, .inl (fun _ => 0))), (q_rows + 4, .inl (cI, 1000, .inl (fun _ => 0))), (q_sz, .inl (cI, 4, .inl (fun _ => 0)))] H := hP
  have hD : va_D _ [(b, .inr (6, [.ref q_tp, .ref q_ga, .null, .null, .null, .int 0, .int 0])), (q_tp, .inr (0, [.ref q_tpr, .int 0])), (q_tpr, .inl (cB, 65536, .inl (fun _ => 0))), (q_ga, .inr (2, [.ref q_gb, .ref q_st, .ref q_nl, .ref q_dl, .ref q_ty, .ref q_ki, .ref q_ti, .ref q_rows, .ref q_sz, .int 0, .int 0])), (q_gb, .inr (0, [.ref q_gbr, .int 0])), (q_gbr, .inl (cB, 65536, .inl (fun _ => 0))), (q_st, .inl (cI, 1100, .inl (fun _ => 0))), (q_nl, .inl (cI, 1100, .inl (fun _ => 0))), (q_dl, .inl (cI, 1100, .inl (fun _ => 0))), (q_ty, .inl (cI, 1100, .inl (fun _ => 0))), (q_ki, .inl (cI, 1100, .inl (fun _ => 0))), (q_ti, .inl (cI, 1100, .inl (fun _ => 0))), (q_rows, .inl (cG, 4, .inr (.inr (.inr (.inr (fun i => if i < 4 then some (q_rows + 1 + i) else none)))))), (q_rows + 1, .inl (cI, 1000, .inl (fun _ => 0))), (q_rows + 2, .inl (cI, 1000, .inl (fun _ => 0))), (q_rows + 3, .inl (cI, 1000, .inl (fun _ => 0))), (q_rows + 4, .inl (cI, 1000, .inl (fun _ => 0))), (q_sz, .inl (cI, 4, .inl (fun _ => 0)))] := hD
  refine lv_aload_n hx hb d_Wm_init_26 rfl (lv_at hl 0 rfl) ?_
  refine va_new (D := D9) (ci := 4) (fs := [.null, .null, .int 0, .int 0, .int 0, .int 0, .int 0, .int 0]) (C := R_Re) (T := F_Re) (N := 8) hx hb hts i_Re t_Re t_Re_ok hown (hts _ g_114) (hts _ g_115) (hts _ g_4) hK hP hD hS hA rfl (fun j hj => by rcases (show j = 0 ∨ j = 1 ∨ j = 2 ∨ j = 3 ∨ j = 4 ∨ j = 5 ∨ j = 6 ∨ j = 7 by omega) with rfl | rfl | rfl | rfl | rfl | rfl | rfl | rfl <;> rfl) (by decide) (by decide) d_Wm_init_27 (fun q_re H hP hD hS => ?_)
  have hP : va_P D9 cls9 [(b, .inr (6, [.ref q_tp, .ref q_ga, .null, .null, .null, .int 0, .int 0])), (q_tp, .inr (0, [.ref q_tpr, .int 0])), (q_tpr, .inl (cB, 65536, .inl (fun _ => 0))), (q_ga, .inr (2, [.ref q_gb, .ref q_st, .ref q_nl, .ref q_dl, .ref q_ty, .ref q_ki, .ref q_ti, .ref q_rows, .ref q_sz, .int 0, .int 0])), (q_gb, .inr (0, [.ref q_gbr, .int 0])), (q_gbr, .inl (cB, 65536, .inl (fun _ => 0))), (q_st, .inl (cI, 1100, .inl (fun _ => 0))), (q_nl, .inl (cI, 1100, .inl (fun _ => 0))), (q_dl, .inl (cI, 1100, .inl (fun _ => 0))), (q_ty, .inl (cI, 1100, .inl (fun _ => 0))), (q_ki, .inl (cI, 1100, .inl (fun _ => 0))), (q_ti, .inl (cI, 1100, .inl (fun _ => 0))), (q_rows, .inl (cG, 4, .inr (.inr (.inr (.inr (fun i => if i < 4 then some (q_rows + 1 + i) else none)))))), (q_rows + 1, .inl (cI, 1000, .inl (fun _ => 0))), (q_rows + 2, .inl (cI, 1000, .inl (fun _ => 0))), (q_rows + 3, .inl (cI, 1000, .inl (fun _ => 0))), (q_rows + 4, .inl (cI, 1000, .inl (fun _ => 0))), (q_sz, .inl (cI, 4, .inl (fun _ => 0))), (q_re, .inr (4, [.null, .null, .int 0, .int 0, .int 0, .int 0, .int 0, .int 0]))] H := hP
  have hD : va_D _ [(b, .inr (6, [.ref q_tp, .ref q_ga, .null, .null, .null, .int 0, .int 0])), (q_tp, .inr (0, [.ref q_tpr, .int 0])), (q_tpr, .inl (cB, 65536, .inl (fun _ => 0))), (q_ga, .inr (2, [.ref q_gb, .ref q_st, .ref q_nl, .ref q_dl, .ref q_ty, .ref q_ki, .ref q_ti, .ref q_rows, .ref q_sz, .int 0, .int 0])), (q_gb, .inr (0, [.ref q_gbr, .int 0])), (q_gbr, .inl (cB, 65536, .inl (fun _ => 0))), (q_st, .inl (cI, 1100, .inl (fun _ => 0))), (q_nl, .inl (cI, 1100, .inl (fun _ => 0))), (q_dl, .inl (cI, 1100, .inl (fun _ => 0))), (q_ty, .inl (cI, 1100, .inl (fun _ => 0))), (q_ki, .inl (cI, 1100, .inl (fun _ => 0))), (q_ti, .inl (cI, 1100, .inl (fun _ => 0))), (q_rows, .inl (cG, 4, .inr (.inr (.inr (.inr (fun i => if i < 4 then some (q_rows + 1 + i) else none)))))), (q_rows + 1, .inl (cI, 1000, .inl (fun _ => 0))), (q_rows + 2, .inl (cI, 1000, .inl (fun _ => 0))), (q_rows + 3, .inl (cI, 1000, .inl (fun _ => 0))), (q_rows + 4, .inl (cI, 1000, .inl (fun _ => 0))), (q_sz, .inl (cI, 4, .inl (fun _ => 0))), (q_re, .inr (4, [.null, .null, .int 0, .int 0, .int 0, .int 0, .int 0, .int 0]))] := hD
  refine lv_dup hx hb d_Wm_init_30 rfl ?_
  refine lv_aload_n hx hb d_Wm_init_31 rfl (lv_at hl 0 rfl) ?_
  refine va_get (D := D9) (ci := 6) (C := R_Wm) (T := F_Wm) (N := 7) hx hb hts i_Wm hown hK hP 0 rfl rfl 0 (by decide) (hts _ g_222) (fun _ h9 => h9) rfl d_Wm_init_32 ?_
  refine lv_aload_n hx hb d_Wm_init_35 rfl (lv_at hl 0 rfl) ?_
  refine va_get (D := D9) (ci := 6) (C := R_Wm) (T := F_Wm) (N := 7) hx hb hts i_Wm hown hK hP 0 rfl rfl 1 (by decide) (hts _ g_223) (fun _ h9 => h9) rfl d_Wm_init_36 ?_
  refine mf_cIN (wr := [_, _, _, _, _, _, _, _, _, _, _, _, _, _, _, _, _, _]) C0 (c_Re_init l D9 cB cI cJ cG q_re q_tp q_ga) g_118 g_4 g_116 g_117 rfl ⟨by decide +kernel, by decide +kernel, show Option.map (fun d => d.parameters.length) (parseMethodDescriptor y_Re_init.desc) = some 2 by decide +kernel⟩ ⟨by decide, by decide⟩ rfl rfl hP hD hS hA [18] [0, 1, 2, 3, 4, 5, 6, 7, 8, 9, 10, 11, 12, 13, 14, 15, 16, 17] rfl rfl (by decide) (by decide) (by decide) hl.1 (Nat.le_of_ble_eq_true rfl) rfl d_Wm_init_39 ⟨by decide, by decide⟩ (fun v9 w9 H locs hq hP hD hS => ?_)
  obtain ⟨rfl, hw9⟩ := hq
  rw [hw9] at hP hD
  have hP : va_P D9 cls9 [(b, .inr (6, [.ref q_tp, .ref q_ga, .null, .null, .null, .int 0, .int 0])), (q_tp, .inr (0, [.ref q_tpr, .int 0])), (q_tpr, .inl (cB, 65536, .inl (fun _ => 0))), (q_ga, .inr (2, [.ref q_gb, .ref q_st, .ref q_nl, .ref q_dl, .ref q_ty, .ref q_ki, .ref q_ti, .ref q_rows, .ref q_sz, .int 0, .int 0])), (q_gb, .inr (0, [.ref q_gbr, .int 0])), (q_gbr, .inl (cB, 65536, .inl (fun _ => 0))), (q_st, .inl (cI, 1100, .inl (fun _ => 0))), (q_nl, .inl (cI, 1100, .inl (fun _ => 0))), (q_dl, .inl (cI, 1100, .inl (fun _ => 0))), (q_ty, .inl (cI, 1100, .inl (fun _ => 0))), (q_ki, .inl (cI, 1100, .inl (fun _ => 0))), (q_ti, .inl (cI, 1100, .inl (fun _ => 0))), (q_rows, .inl (cG, 4, .inr (.inr (.inr (.inr (fun i => if i < 4 then some (q_rows + 1 + i) else none)))))), (q_rows + 1, .inl (cI, 1000, .inl (fun _ => 0))), (q_rows + 2, .inl (cI, 1000, .inl (fun _ => 0))), (q_rows + 3, .inl (cI, 1000, .inl (fun _ => 0))), (q_rows + 4, .inl (cI, 1000, .inl (fun _ => 0))), (q_sz, .inl (cI, 4, .inl (fun _ => 0))), (q_re, .inr (4, [.ref q_tp, .ref q_ga, .int 0, .int 0, .int 0, .int 0, .int 0, .int 0]))] H := hP
  have hD : va_D _ [(b, .inr (6, [.ref q_tp, .ref q_ga, .null, .null, .null, .int 0, .int 0])), (q_tp, .inr (0, [.ref q_tpr, .int 0])), (q_tpr, .inl (cB, 65536, .inl (fun _ => 0))), (q_ga, .inr (2, [.ref q_gb, .ref q_st, .ref q_nl, .ref q_dl, .ref q_ty, .ref q_ki, .ref q_ti, .ref q_rows, .ref q_sz, .int 0, .int 0])), (q_gb, .inr (0, [.ref q_gbr, .int 0])), (q_gbr, .inl (cB, 65536, .inl (fun _ => 0))), (q_st, .inl (cI, 1100, .inl (fun _ => 0))), (q_nl, .inl (cI, 1100, .inl (fun _ => 0))), (q_dl, .inl (cI, 1100, .inl (fun _ => 0))), (q_ty, .inl (cI, 1100, .inl (fun _ => 0))), (q_ki, .inl (cI, 1100, .inl (fun _ => 0))), (q_ti, .inl (cI, 1100, .inl (fun _ => 0))), (q_rows, .inl (cG, 4, .inr (.inr (.inr (.inr (fun i => if i < 4 then some (q_rows + 1 + i) else none)))))), (q_rows + 1, .inl (cI, 1000, .inl (fun _ => 0))), (q_rows + 2, .inl (cI, 1000, .inl (fun _ => 0))), (q_rows + 3, .inl (cI, 1000, .inl (fun _ => 0))), (q_rows + 4, .inl (cI, 1000, .inl (fun _ => 0))), (q_sz, .inl (cI, 4, .inl (fun _ => 0))), (q_re, .inr (4, [.ref q_tp, .ref q_ga, .int 0, .int 0, .int 0, .int 0, .int 0, .int 0]))] := hD
  refine va_putF (D := D9) (ty := .object "WireMessages$Reader") (ci := 6) (C := R_Wm) (T := F_Wm) (N := 7) hx hb hts i_Wm t_Wm t_Wm_ok n_Wm hown hK hP hD hS 0 rfl rfl 2 (by decide) (hts _ g_224) (fun _ h9 => h9) rfl hin rfl (by decide +kernel) rfl rfl (Nat.le_of_ble_eq_true rfl) d_Wm_init_42 (fun H locs hP hD hS => ?_)
  have hP : va_P D9 cls9 [(b, .inr (6, [.ref q_tp, .ref q_ga, .ref q_re, .null, .null, .int 0, .int 0])), (q_tp, .inr (0, [.ref q_tpr, .int 0])), (q_tpr, .inl (cB, 65536, .inl (fun _ => 0))), (q_ga, .inr (2, [.ref q_gb, .ref q_st, .ref q_nl, .ref q_dl, .ref q_ty, .ref q_ki, .ref q_ti, .ref q_rows, .ref q_sz, .int 0, .int 0])), (q_gb, .inr (0, [.ref q_gbr, .int 0])), (q_gbr, .inl (cB, 65536, .inl (fun _ => 0))), (q_st, .inl (cI, 1100, .inl (fun _ => 0))), (q_nl, .inl (cI, 1100, .inl (fun _ => 0))), (q_dl, .inl (cI, 1100, .inl (fun _ => 0))), (q_ty, .inl (cI, 1100, .inl (fun _ => 0))), (q_ki, .inl (cI, 1100, .inl (fun _ => 0))), (q_ti, .inl (cI, 1100, .inl (fun _ => 0))), (q_rows, .inl (cG, 4, .inr (.inr (.inr (.inr (fun i => if i < 4 then some (q_rows + 1 + i) else none)))))), (q_rows + 1, .inl (cI, 1000, .inl (fun _ => 0))), (q_rows + 2, .inl (cI, 1000, .inl (fun _ => 0))), (q_rows + 3, .inl (cI, 1000, .inl (fun _ => 0))), (q_rows + 4, .inl (cI, 1000, .inl (fun _ => 0))), (q_sz, .inl (cI, 4, .inl (fun _ => 0))), (q_re, .inr (4, [.ref q_tp, .ref q_ga, .int 0, .int 0, .int 0, .int 0, .int 0, .int 0]))] H := hP
  have hD : va_D _ [(b, .inr (6, [.ref q_tp, .ref q_ga, .ref q_re, .null, .null, .int 0, .int 0])), (q_tp, .inr (0, [.ref q_tpr, .int 0])), (q_tpr, .inl (cB, 65536, .inl (fun _ => 0))), (q_ga, .inr (2, [.ref q_gb, .ref q_st, .ref q_nl, .ref q_dl, .ref q_ty, .ref q_ki, .ref q_ti, .ref q_rows, .ref q_sz, .int 0, .int 0])), (q_gb, .inr (0, [.ref q_gbr, .int 0])), (q_gbr, .inl (cB, 65536, .inl (fun _ => 0))), (q_st, .inl (cI, 1100, .inl (fun _ => 0))), (q_nl, .inl (cI, 1100, .inl (fun _ => 0))), (q_dl, .inl (cI, 1100, .inl (fun _ => 0))), (q_ty, .inl (cI, 1100, .inl (fun _ => 0))), (q_ki, .inl (cI, 1100, .inl (fun _ => 0))), (q_ti, .inl (cI, 1100, .inl (fun _ => 0))), (q_rows, .inl (cG, 4, .inr (.inr (.inr (.inr (fun i => if i < 4 then some (q_rows + 1 + i) else none)))))), (q_rows + 1, .inl (cI, 1000, .inl (fun _ => 0))), (q_rows + 2, .inl (cI, 1000, .inl (fun _ => 0))), (q_rows + 3, .inl (cI, 1000, .inl (fun _ => 0))), (q_rows + 4, .inl (cI, 1000, .inl (fun _ => 0))), (q_sz, .inl (cI, 4, .inl (fun _ => 0))), (q_re, .inr (4, [.ref q_tp, .ref q_ga, .int 0, .int 0, .int 0, .int 0, .int 0, .int 0]))] := hD
  refine lv_aload_n hx hb d_Wm_init_45 rfl (lv_at hl 0 rfl) ?_
  refine va_new (D := D9) (ci := 5) (fs := [.null, .null, .null, .null, .null, .int 0]) (C := R_Wr) (T := F_Wr) (N := 6) hx hb hts i_Wr t_Wr t_Wr_ok hown (hts _ g_148) (hts _ g_149) (hts _ g_5) hK hP hD hS hA rfl (fun j hj => by rcases (show j = 0 ∨ j = 1 ∨ j = 2 ∨ j = 3 ∨ j = 4 ∨ j = 5 by omega) with rfl | rfl | rfl | rfl | rfl | rfl <;> rfl) (by decide) (by decide) d_Wm_init_46 (fun q_wr H hP hD hS => ?_)
  have hP : va_P D9 cls9 [(b, .inr (6, [.ref q_tp, .ref q_ga, .ref q_re, .null, .null, .int 0, .int 0])), (q_tp, .inr (0, [.ref q_tpr, .int 0])), (q_tpr, .inl (cB, 65536, .inl (fun _ => 0))), (q_ga, .inr (2, [.ref q_gb, .ref q_st, .ref q_nl, .ref q_dl, .ref q_ty, .ref q_ki, .ref q_ti, .ref q_rows, .ref q_sz, .int 0, .int 0])), (q_gb, .inr (0, [.ref q_gbr, .int 0])), (q_gbr, .inl (cB, 65536, .inl (fun _ => 0))), (q_st, .inl (cI, 1100, .inl (fun _ => 0))), (q_nl, .inl (cI, 1100, .inl (fun _ => 0))), (q_dl, .inl (cI, 1100, .inl (fun _ => 0))), (q_ty, .inl (cI, 1100, .inl (fun _ => 0))), (q_ki, .inl (cI, 1100, .inl (fun _ => 0))), (q_ti, .inl (cI, 1100, .inl (fun _ => 0))), (q_rows, .inl (cG, 4, .inr (.inr (.inr (.inr (fun i => if i < 4 then some (q_rows + 1 + i) else none)))))), (q_rows + 1, .inl (cI, 1000, .inl (fun _ => 0))), (q_rows + 2, .inl (cI, 1000, .inl (fun _ => 0))), (q_rows + 3, .inl (cI, 1000, .inl (fun _ => 0))), (q_rows + 4, .inl (cI, 1000, .inl (fun _ => 0))), (q_sz, .inl (cI, 4, .inl (fun _ => 0))), (q_re, .inr (4, [.ref q_tp, .ref q_ga, .int 0, .int 0, .int 0, .int 0, .int 0, .int 0])), (q_wr, .inr (5, [.null, .null, .null, .null, .null, .int 0]))] H := hP
  have hD : va_D _ [(b, .inr (6, [.ref q_tp, .ref q_ga, .ref q_re, .null, .null, .int 0, .int 0])), (q_tp, .inr (0, [.ref q_tpr, .int 0])), (q_tpr, .inl (cB, 65536, .inl (fun _ => 0))), (q_ga, .inr (2, [.ref q_gb, .ref q_st, .ref q_nl, .ref q_dl, .ref q_ty, .ref q_ki, .ref q_ti, .ref q_rows, .ref q_sz, .int 0, .int 0])), (q_gb, .inr (0, [.ref q_gbr, .int 0])), (q_gbr, .inl (cB, 65536, .inl (fun _ => 0))), (q_st, .inl (cI, 1100, .inl (fun _ => 0))), (q_nl, .inl (cI, 1100, .inl (fun _ => 0))), (q_dl, .inl (cI, 1100, .inl (fun _ => 0))), (q_ty, .inl (cI, 1100, .inl (fun _ => 0))), (q_ki, .inl (cI, 1100, .inl (fun _ => 0))), (q_ti, .inl (cI, 1100, .inl (fun _ => 0))), (q_rows, .inl (cG, 4, .inr (.inr (.inr (.inr (fun i => if i < 4 then some (q_rows + 1 + i) else none)))))), (q_rows + 1, .inl (cI, 1000, .inl (fun _ => 0))), (q_rows + 2, .inl (cI, 1000, .inl (fun _ => 0))), (q_rows + 3, .inl (cI, 1000, .inl (fun _ => 0))), (q_rows + 4, .inl (cI, 1000, .inl (fun _ => 0))), (q_sz, .inl (cI, 4, .inl (fun _ => 0))), (q_re, .inr (4, [.ref q_tp, .ref q_ga, .int 0, .int 0, .int 0, .int 0, .int 0, .int 0])), (q_wr, .inr (5, [.null, .null, .null, .null, .null, .int 0]))] := hD
  refine lv_dup hx hb d_Wm_init_49 rfl ?_
  refine lv_aload_n hx hb d_Wm_init_50 rfl (lv_at hl 0 rfl) ?_
  refine va_get (D := D9) (ci := 6) (C := R_Wm) (T := F_Wm) (N := 7) hx hb hts i_Wm hown hK hP 0 rfl rfl 1 (by decide) (hts _ g_223) (fun _ h9 => h9) rfl d_Wm_init_51 ?_
  refine mf_cIN (wr := [_, _, _, _, _, _, _, _, _, _, _, _, _, _, _, _, _, _]) C0 (c_Wr_init l D9 cB cI cJ cG q_wr q_ga q_gb _) g_152 g_5 g_150 g_151 rfl ⟨by decide +kernel, by decide +kernel, show Option.map (fun d => d.parameters.length) (parseMethodDescriptor y_Wr_init.desc) = some 1 by decide +kernel⟩ ⟨by decide, by decide⟩ rfl rfl hP hD hS hA [19, 3] [0, 1, 2, 4, 5, 6, 7, 8, 9, 10, 11, 12, 13, 14, 15, 16, 17, 18] rfl rfl (by decide) (by decide) (by decide) hl.1 (Nat.le_of_ble_eq_true rfl) rfl d_Wm_init_54 ⟨by decide, by decide⟩ (fun v9 w9 H locs hq hP hD hS => ?_)
  obtain ⟨rfl, q_ms, q_msr, q_ls, q_lm, q_en, q_ne, q_ol, q_mk, q_pl, q_so, hw9⟩ := hq
  rw [hw9] at hP hD
  have hP : va_P D9 cls9 [(b, .inr (6, [.ref q_tp, .ref q_ga, .ref q_re, .null, .null, .int 0, .int 0])), (q_tp, .inr (0, [.ref q_tpr, .int 0])), (q_tpr, .inl (cB, 65536, .inl (fun _ => 0))), (q_gb, .inr (0, [.ref q_gbr, .int 0])), (q_gbr, .inl (cB, 65536, .inl (fun _ => 0))), (q_st, .inl (cI, 1100, .inl (fun _ => 0))), (q_nl, .inl (cI, 1100, .inl (fun _ => 0))), (q_dl, .inl (cI, 1100, .inl (fun _ => 0))), (q_ty, .inl (cI, 1100, .inl (fun _ => 0))), (q_ki, .inl (cI, 1100, .inl (fun _ => 0))), (q_ti, .inl (cI, 1100, .inl (fun _ => 0))), (q_rows, .inl (cG, 4, .inr (.inr (.inr (.inr (fun i => if i < 4 then some (q_rows + 1 + i) else none)))))), (q_rows + 1, .inl (cI, 1000, .inl (fun _ => 0))), (q_rows + 2, .inl (cI, 1000, .inl (fun _ => 0))), (q_rows + 3, .inl (cI, 1000, .inl (fun _ => 0))), (q_rows + 4, .inl (cI, 1000, .inl (fun _ => 0))), (q_sz, .inl (cI, 4, .inl (fun _ => 0))), (q_re, .inr (4, [.ref q_tp, .ref q_ga, .int 0, .int 0, .int 0, .int 0, .int 0, .int 0])), (q_wr, .inr (5, [.ref q_ga, .ref q_ms, .ref q_en, .ref q_ls, .ref q_lm, .int 0])), (q_ga, .inr (2, [.ref q_gb, .ref q_st, .ref q_nl, .ref q_dl, .ref q_ty, .ref q_ki, .ref q_ti, .ref q_rows, .ref q_sz, .int 0, .int 0])), (q_ms, .inr (0, [.ref q_msr, .int 0])), (q_msr, .inl (cB, 65536, .inl (fun _ => 0))), (q_ls, .inl (cI, 127, .inl (fun _ => 0))), (q_lm, .inl (cI, 127, .inl (fun _ => 0))), (q_en, .inr (1, [.ref q_gb, .ref q_ne, .ref q_ol, .ref q_mk, .ref q_pl, .ref q_so, .int 0])), (q_ne, .inl (cI, 4096, .inl (fun _ => 0))), (q_ol, .inl (cI, 8192, .inl (fun _ => 0))), (q_mk, .inl (cI, 8192, .inl (fun _ => 0))), (q_pl, .inl (cI, 8192, .inl (fun _ => 0))), (q_so, .inl (cI, 8192, .inl (fun _ => 0)))] H := hP
  have hD : va_D _ [(b, .inr (6, [.ref q_tp, .ref q_ga, .ref q_re, .null, .null, .int 0, .int 0])), (q_tp, .inr (0, [.ref q_tpr, .int 0])), (q_tpr, .inl (cB, 65536, .inl (fun _ => 0))), (q_gb, .inr (0, [.ref q_gbr, .int 0])), (q_gbr, .inl (cB, 65536, .inl (fun _ => 0))), (q_st, .inl (cI, 1100, .inl (fun _ => 0))), (q_nl, .inl (cI, 1100, .inl (fun _ => 0))), (q_dl, .inl (cI, 1100, .inl (fun _ => 0))), (q_ty, .inl (cI, 1100, .inl (fun _ => 0))), (q_ki, .inl (cI, 1100, .inl (fun _ => 0))), (q_ti, .inl (cI, 1100, .inl (fun _ => 0))), (q_rows, .inl (cG, 4, .inr (.inr (.inr (.inr (fun i => if i < 4 then some (q_rows + 1 + i) else none)))))), (q_rows + 1, .inl (cI, 1000, .inl (fun _ => 0))), (q_rows + 2, .inl (cI, 1000, .inl (fun _ => 0))), (q_rows + 3, .inl (cI, 1000, .inl (fun _ => 0))), (q_rows + 4, .inl (cI, 1000, .inl (fun _ => 0))), (q_sz, .inl (cI, 4, .inl (fun _ => 0))), (q_re, .inr (4, [.ref q_tp, .ref q_ga, .int 0, .int 0, .int 0, .int 0, .int 0, .int 0])), (q_wr, .inr (5, [.ref q_ga, .ref q_ms, .ref q_en, .ref q_ls, .ref q_lm, .int 0])), (q_ga, .inr (2, [.ref q_gb, .ref q_st, .ref q_nl, .ref q_dl, .ref q_ty, .ref q_ki, .ref q_ti, .ref q_rows, .ref q_sz, .int 0, .int 0])), (q_ms, .inr (0, [.ref q_msr, .int 0])), (q_msr, .inl (cB, 65536, .inl (fun _ => 0))), (q_ls, .inl (cI, 127, .inl (fun _ => 0))), (q_lm, .inl (cI, 127, .inl (fun _ => 0))), (q_en, .inr (1, [.ref q_gb, .ref q_ne, .ref q_ol, .ref q_mk, .ref q_pl, .ref q_so, .int 0])), (q_ne, .inl (cI, 4096, .inl (fun _ => 0))), (q_ol, .inl (cI, 8192, .inl (fun _ => 0))), (q_mk, .inl (cI, 8192, .inl (fun _ => 0))), (q_pl, .inl (cI, 8192, .inl (fun _ => 0))), (q_so, .inl (cI, 8192, .inl (fun _ => 0)))] := hD
  refine va_putF (D := D9) (ty := .object "WireMessages$Writer") (ci := 6) (C := R_Wm) (T := F_Wm) (N := 7) hx hb hts i_Wm t_Wm t_Wm_ok n_Wm hown hK hP hD hS 0 rfl rfl 3 (by decide) (hts _ g_225) (fun _ h9 => h9) rfl hin rfl (by decide +kernel) rfl rfl (Nat.le_of_ble_eq_true rfl) d_Wm_init_57 (fun H locs hP hD hS => ?_)
  have hP : va_P D9 cls9 [(b, .inr (6, [.ref q_tp, .ref q_ga, .ref q_re, .ref q_wr, .null, .int 0, .int 0])), (q_tp, .inr (0, [.ref q_tpr, .int 0])), (q_tpr, .inl (cB, 65536, .inl (fun _ => 0))), (q_gb, .inr (0, [.ref q_gbr, .int 0])), (q_gbr, .inl (cB, 65536, .inl (fun _ => 0))), (q_st, .inl (cI, 1100, .inl (fun _ => 0))), (q_nl, .inl (cI, 1100, .inl (fun _ => 0))), (q_dl, .inl (cI, 1100, .inl (fun _ => 0))), (q_ty, .inl (cI, 1100, .inl (fun _ => 0))), (q_ki, .inl (cI, 1100, .inl (fun _ => 0))), (q_ti, .inl (cI, 1100, .inl (fun _ => 0))), (q_rows, .inl (cG, 4, .inr (.inr (.inr (.inr (fun i => if i < 4 then some (q_rows + 1 + i) else none)))))), (q_rows + 1, .inl (cI, 1000, .inl (fun _ => 0))), (q_rows + 2, .inl (cI, 1000, .inl (fun _ => 0))), (q_rows + 3, .inl (cI, 1000, .inl (fun _ => 0))), (q_rows + 4, .inl (cI, 1000, .inl (fun _ => 0))), (q_sz, .inl (cI, 4, .inl (fun _ => 0))), (q_re, .inr (4, [.ref q_tp, .ref q_ga, .int 0, .int 0, .int 0, .int 0, .int 0, .int 0])), (q_wr, .inr (5, [.ref q_ga, .ref q_ms, .ref q_en, .ref q_ls, .ref q_lm, .int 0])), (q_ga, .inr (2, [.ref q_gb, .ref q_st, .ref q_nl, .ref q_dl, .ref q_ty, .ref q_ki, .ref q_ti, .ref q_rows, .ref q_sz, .int 0, .int 0])), (q_ms, .inr (0, [.ref q_msr, .int 0])), (q_msr, .inl (cB, 65536, .inl (fun _ => 0))), (q_ls, .inl (cI, 127, .inl (fun _ => 0))), (q_lm, .inl (cI, 127, .inl (fun _ => 0))), (q_en, .inr (1, [.ref q_gb, .ref q_ne, .ref q_ol, .ref q_mk, .ref q_pl, .ref q_so, .int 0])), (q_ne, .inl (cI, 4096, .inl (fun _ => 0))), (q_ol, .inl (cI, 8192, .inl (fun _ => 0))), (q_mk, .inl (cI, 8192, .inl (fun _ => 0))), (q_pl, .inl (cI, 8192, .inl (fun _ => 0))), (q_so, .inl (cI, 8192, .inl (fun _ => 0)))] H := hP
  have hD : va_D _ [(b, .inr (6, [.ref q_tp, .ref q_ga, .ref q_re, .ref q_wr, .null, .int 0, .int 0])), (q_tp, .inr (0, [.ref q_tpr, .int 0])), (q_tpr, .inl (cB, 65536, .inl (fun _ => 0))), (q_gb, .inr (0, [.ref q_gbr, .int 0])), (q_gbr, .inl (cB, 65536, .inl (fun _ => 0))), (q_st, .inl (cI, 1100, .inl (fun _ => 0))), (q_nl, .inl (cI, 1100, .inl (fun _ => 0))), (q_dl, .inl (cI, 1100, .inl (fun _ => 0))), (q_ty, .inl (cI, 1100, .inl (fun _ => 0))), (q_ki, .inl (cI, 1100, .inl (fun _ => 0))), (q_ti, .inl (cI, 1100, .inl (fun _ => 0))), (q_rows, .inl (cG, 4, .inr (.inr (.inr (.inr (fun i => if i < 4 then some (q_rows + 1 + i) else none)))))), (q_rows + 1, .inl (cI, 1000, .inl (fun _ => 0))), (q_rows + 2, .inl (cI, 1000, .inl (fun _ => 0))), (q_rows + 3, .inl (cI, 1000, .inl (fun _ => 0))), (q_rows + 4, .inl (cI, 1000, .inl (fun _ => 0))), (q_sz, .inl (cI, 4, .inl (fun _ => 0))), (q_re, .inr (4, [.ref q_tp, .ref q_ga, .int 0, .int 0, .int 0, .int 0, .int 0, .int 0])), (q_wr, .inr (5, [.ref q_ga, .ref q_ms, .ref q_en, .ref q_ls, .ref q_lm, .int 0])), (q_ga, .inr (2, [.ref q_gb, .ref q_st, .ref q_nl, .ref q_dl, .ref q_ty, .ref q_ki, .ref q_ti, .ref q_rows, .ref q_sz, .int 0, .int 0])), (q_ms, .inr (0, [.ref q_msr, .int 0])), (q_msr, .inl (cB, 65536, .inl (fun _ => 0))), (q_ls, .inl (cI, 127, .inl (fun _ => 0))), (q_lm, .inl (cI, 127, .inl (fun _ => 0))), (q_en, .inr (1, [.ref q_gb, .ref q_ne, .ref q_ol, .ref q_mk, .ref q_pl, .ref q_so, .int 0])), (q_ne, .inl (cI, 4096, .inl (fun _ => 0))), (q_ol, .inl (cI, 8192, .inl (fun _ => 0))), (q_mk, .inl (cI, 8192, .inl (fun _ => 0))), (q_pl, .inl (cI, 8192, .inl (fun _ => 0))), (q_so, .inl (cI, 8192, .inl (fun _ => 0)))] := hD
  refine lv_aload_n hx hb d_Wm_init_60 rfl (lv_at hl 0 rfl) ?_
  refine va_new (D := D9) (ci := 3) (fs := [.null, .null, .null]) (C := R_Na) (T := F_Na) (N := 3) hx hb hts i_Na t_Na t_Na_ok hown (hts _ g_206) (hts _ g_207) (hts _ g_7) hK hP hD hS hA rfl (fun j hj => by rcases (show j = 0 ∨ j = 1 ∨ j = 2 by omega) with rfl | rfl | rfl <;> rfl) (by decide) (by decide) d_Wm_init_61 (fun q_na H hP hD hS => ?_)
  have hP : va_P D9 cls9 [(b, .inr (6, [.ref q_tp, .ref q_ga, .ref q_re, .ref q_wr, .null, .int 0, .int 0])), (q_tp, .inr (0, [.ref q_tpr, .int 0])), (q_tpr, .inl (cB, 65536, .inl (fun _ => 0))), (q_gb, .inr (0, [.ref q_gbr, .int 0])), (q_gbr, .inl (cB, 65536, .inl (fun _ => 0))), (q_st, .inl (cI, 1100, .inl (fun _ => 0))), (q_nl, .inl (cI, 1100, .inl (fun _ => 0))), (q_dl, .inl (cI, 1100, .inl (fun _ => 0))), (q_ty, .inl (cI, 1100, .inl (fun _ => 0))), (q_ki, .inl (cI, 1100, .inl (fun _ => 0))), (q_ti, .inl (cI, 1100, .inl (fun _ => 0))), (q_rows, .inl (cG, 4, .inr (.inr (.inr (.inr (fun i => if i < 4 then some (q_rows + 1 + i) else none)))))), (q_rows + 1, .inl (cI, 1000, .inl (fun _ => 0))), (q_rows + 2, .inl (cI, 1000, .inl (fun _ => 0))), (q_rows + 3, .inl (cI, 1000, .inl (fun _ => 0))), (q_rows + 4, .inl (cI, 1000, .inl (fun _ => 0))), (q_sz, .inl (cI, 4, .inl (fun _ => 0))), (q_re, .inr (4, [.ref q_tp, .ref q_ga, .int 0, .int 0, .int 0, .int 0, .int 0, .int 0])), (q_wr, .inr (5, [.ref q_ga, .ref q_ms, .ref q_en, .ref q_ls, .ref q_lm, .int 0])), (q_ga, .inr (2, [.ref q_gb, .ref q_st, .ref q_nl, .ref q_dl, .ref q_ty, .ref q_ki, .ref q_ti, .ref q_rows, .ref q_sz, .int 0, .int 0])), (q_ms, .inr (0, [.ref q_msr, .int 0])), (q_msr, .inl (cB, 65536, .inl (fun _ => 0))), (q_ls, .inl (cI, 127, .inl (fun _ => 0))), (q_lm, .inl (cI, 127, .inl (fun _ => 0))), (q_en, .inr (1, [.ref q_gb, .ref q_ne, .ref q_ol, .ref q_mk, .ref q_pl, .ref q_so, .int 0])), (q_ne, .inl (cI, 4096, .inl (fun _ => 0))), (q_ol, .inl (cI, 8192, .inl (fun _ => 0))), (q_mk, .inl (cI, 8192, .inl (fun _ => 0))), (q_pl, .inl (cI, 8192, .inl (fun _ => 0))), (q_so, .inl (cI, 8192, .inl (fun _ => 0))), (q_na, .inr (3, [.null, .null, .null]))] H := hP
  have hD : va_D _ [(b, .inr (6, [.ref q_tp, .ref q_ga, .ref q_re, .ref q_wr, .null, .int 0, .int 0])), (q_tp, .inr (0, [.ref q_tpr, .int 0])), (q_tpr, .inl (cB, 65536, .inl (fun _ => 0))), (q_gb, .inr (0, [.ref q_gbr, .int 0])), (q_gbr, .inl (cB, 65536, .inl (fun _ => 0))), (q_st, .inl (cI, 1100, .inl (fun _ => 0))), (q_nl, .inl (cI, 1100, .inl (fun _ => 0))), (q_dl, .inl (cI, 1100, .inl (fun _ => 0))), (q_ty, .inl (cI, 1100, .inl (fun _ => 0))), (q_ki, .inl (cI, 1100, .inl (fun _ => 0))), (q_ti, .inl (cI, 1100, .inl (fun _ => 0))), (q_rows, .inl (cG, 4, .inr (.inr (.inr (.inr (fun i => if i < 4 then some (q_rows + 1 + i) else none)))))), (q_rows + 1, .inl (cI, 1000, .inl (fun _ => 0))), (q_rows + 2, .inl (cI, 1000, .inl (fun _ => 0))), (q_rows + 3, .inl (cI, 1000, .inl (fun _ => 0))), (q_rows + 4, .inl (cI, 1000, .inl (fun _ => 0))), (q_sz, .inl (cI, 4, .inl (fun _ => 0))), (q_re, .inr (4, [.ref q_tp, .ref q_ga, .int 0, .int 0, .int 0, .int 0, .int 0, .int 0])), (q_wr, .inr (5, [.ref q_ga, .ref q_ms, .ref q_en, .ref q_ls, .ref q_lm, .int 0])), (q_ga, .inr (2, [.ref q_gb, .ref q_st, .ref q_nl, .ref q_dl, .ref q_ty, .ref q_ki, .ref q_ti, .ref q_rows, .ref q_sz, .int 0, .int 0])), (q_ms, .inr (0, [.ref q_msr, .int 0])), (q_msr, .inl (cB, 65536, .inl (fun _ => 0))), (q_ls, .inl (cI, 127, .inl (fun _ => 0))), (q_lm, .inl (cI, 127, .inl (fun _ => 0))), (q_en, .inr (1, [.ref q_gb, .ref q_ne, .ref q_ol, .ref q_mk, .ref q_pl, .ref q_so, .int 0])), (q_ne, .inl (cI, 4096, .inl (fun _ => 0))), (q_ol, .inl (cI, 8192, .inl (fun _ => 0))), (q_mk, .inl (cI, 8192, .inl (fun _ => 0))), (q_pl, .inl (cI, 8192, .inl (fun _ => 0))), (q_so, .inl (cI, 8192, .inl (fun _ => 0))), (q_na, .inr (3, [.null, .null, .null]))] := hD
  refine lv_dup hx hb d_Wm_init_64 rfl ?_
  refine lv_aload_n hx hb d_Wm_init_65 rfl (lv_at hl 0 rfl) ?_
  refine va_get (D := D9) (ci := 6) (C := R_Wm) (T := F_Wm) (N := 7) hx hb hts i_Wm hown hK hP 0 rfl rfl 1 (by decide) (hts _ g_223) (fun _ h9 => h9) rfl d_Wm_init_66 ?_
  refine va_getN (D := D9) (ci := 2) (C := R_Ga) (T := F_Ga) (N := 11) hx hb hts i_Ga hown hK hP 19 rfl rfl 0 (by decide) (hts _ g_59) (fun _ h9 => h9) rfl d_Wm_init_69 ?_
  refine mf_cIN (wr := [_, _, _, _, _, _, _, _, _, _, _, _, _, _, _, _, _, _, _, _, _, _, _, _, _, _, _, _, _, _]) C0 (c_Na_init l D9 cB cI cJ cG q_na q_gb) g_210 g_7 g_208 g_209 rfl ⟨by decide +kernel, by decide +kernel, show Option.map (fun d => d.parameters.length) (parseMethodDescriptor y_Na_init.desc) = some 1 by decide +kernel⟩ ⟨by decide, by decide⟩ rfl rfl hP hD hS hA [30] [0, 1, 2, 3, 4, 5, 6, 7, 8, 9, 10, 11, 12, 13, 14, 15, 16, 17, 18, 19, 20, 21, 22, 23, 24, 25, 26, 27, 28, 29] rfl rfl (by decide) (by decide) (by decide) hl.1 (Nat.le_of_ble_eq_true rfl) rfl d_Wm_init_72 ⟨by decide, by decide⟩ (fun v9 w9 H locs hq hP hD hS => ?_)
  obtain ⟨rfl, q_lb, q_ob, hw9⟩ := hq
  rw [hw9] at hP hD
  have hP : va_P D9 cls9 [(b, .inr (6, [.ref q_tp, .ref q_ga, .ref q_re, .ref q_wr, .null, .int 0, .int 0])), (q_tp, .inr (0, [.ref q_tpr, .int 0])), (q_tpr, .inl (cB, 65536, .inl (fun _ => 0))), (q_gb, .inr (0, [.ref q_gbr, .int 0])), (q_gbr, .inl (cB, 65536, .inl (fun _ => 0))), (q_st, .inl (cI, 1100, .inl (fun _ => 0))), (q_nl, .inl (cI, 1100, .inl (fun _ => 0))), (q_dl, .inl (cI, 1100, .inl (fun _ => 0))), (q_ty, .inl (cI, 1100, .inl (fun _ => 0))), (q_ki, .inl (cI, 1100, .inl (fun _ => 0))), (q_ti, .inl (cI, 1100, .inl (fun _ => 0))), (q_rows, .inl (cG, 4, .inr (.inr (.inr (.inr (fun i => if i < 4 then some (q_rows + 1 + i) else none)))))), (q_rows + 1, .inl (cI, 1000, .inl (fun _ => 0))), (q_rows + 2, .inl (cI, 1000, .inl (fun _ => 0))), (q_rows + 3, .inl (cI, 1000, .inl (fun _ => 0))), (q_rows + 4, .inl (cI, 1000, .inl (fun _ => 0))), (q_sz, .inl (cI, 4, .inl (fun _ => 0))), (q_re, .inr (4, [.ref q_tp, .ref q_ga, .int 0, .int 0, .int 0, .int 0, .int 0, .int 0])), (q_wr, .inr (5, [.ref q_ga, .ref q_ms, .ref q_en, .ref q_ls, .ref q_lm, .int 0])), (q_ga, .inr (2, [.ref q_gb, .ref q_st, .ref q_nl, .ref q_dl, .ref q_ty, .ref q_ki, .ref q_ti, .ref q_rows, .ref q_sz, .int 0, .int 0])), (q_ms, .inr (0, [.ref q_msr, .int 0])), (q_msr, .inl (cB, 65536, .inl (fun _ => 0))), (q_ls, .inl (cI, 127, .inl (fun _ => 0))), (q_lm, .inl (cI, 127, .inl (fun _ => 0))), (q_en, .inr (1, [.ref q_gb, .ref q_ne, .ref q_ol, .ref q_mk, .ref q_pl, .ref q_so, .int 0])), (q_ne, .inl (cI, 4096, .inl (fun _ => 0))), (q_ol, .inl (cI, 8192, .inl (fun _ => 0))), (q_mk, .inl (cI, 8192, .inl (fun _ => 0))), (q_pl, .inl (cI, 8192, .inl (fun _ => 0))), (q_so, .inl (cI, 8192, .inl (fun _ => 0))), (q_na, .inr (3, [.ref q_gb, .ref q_lb, .ref q_ob])), (q_lb, .inl (cI, 127, .inl (fun _ => 0))), (q_ob, .inl (cI, 127, .inl (fun _ => 0)))] H := hP
  have hD : va_D _ [(b, .inr (6, [.ref q_tp, .ref q_ga, .ref q_re, .ref q_wr, .null, .int 0, .int 0])), (q_tp, .inr (0, [.ref q_tpr, .int 0])), (q_tpr, .inl (cB, 65536, .inl (fun _ => 0))), (q_gb, .inr (0, [.ref q_gbr, .int 0])), (q_gbr, .inl (cB, 65536, .inl (fun _ => 0))), (q_st, .inl (cI, 1100, .inl (fun _ => 0))), (q_nl, .inl (cI, 1100, .inl (fun _ => 0))), (q_dl, .inl (cI, 1100, .inl (fun _ => 0))), (q_ty, .inl (cI, 1100, .inl (fun _ => 0))), (q_ki, .inl (cI, 1100, .inl (fun _ => 0))), (q_ti, .inl (cI, 1100, .inl (fun _ => 0))), (q_rows, .inl (cG, 4, .inr (.inr (.inr (.inr (fun i => if i < 4 then some (q_rows + 1 + i) else none)))))), (q_rows + 1, .inl (cI, 1000, .inl (fun _ => 0))), (q_rows + 2, .inl (cI, 1000, .inl (fun _ => 0))), (q_rows + 3, .inl (cI, 1000, .inl (fun _ => 0))), (q_rows + 4, .inl (cI, 1000, .inl (fun _ => 0))), (q_sz, .inl (cI, 4, .inl (fun _ => 0))), (q_re, .inr (4, [.ref q_tp, .ref q_ga, .int 0, .int 0, .int 0, .int 0, .int 0, .int 0])), (q_wr, .inr (5, [.ref q_ga, .ref q_ms, .ref q_en, .ref q_ls, .ref q_lm, .int 0])), (q_ga, .inr (2, [.ref q_gb, .ref q_st, .ref q_nl, .ref q_dl, .ref q_ty, .ref q_ki, .ref q_ti, .ref q_rows, .ref q_sz, .int 0, .int 0])), (q_ms, .inr (0, [.ref q_msr, .int 0])), (q_msr, .inl (cB, 65536, .inl (fun _ => 0))), (q_ls, .inl (cI, 127, .inl (fun _ => 0))), (q_lm, .inl (cI, 127, .inl (fun _ => 0))), (q_en, .inr (1, [.ref q_gb, .ref q_ne, .ref q_ol, .ref q_mk, .ref q_pl, .ref q_so, .int 0])), (q_ne, .inl (cI, 4096, .inl (fun _ => 0))), (q_ol, .inl (cI, 8192, .inl (fun _ => 0))), (q_mk, .inl (cI, 8192, .inl (fun _ => 0))), (q_pl, .inl (cI, 8192, .inl (fun _ => 0))), (q_so, .inl (cI, 8192, .inl (fun _ => 0))), (q_na, .inr (3, [.ref q_gb, .ref q_lb, .ref q_ob])), (q_lb, .inl (cI, 127, .inl (fun _ => 0))), (q_ob, .inl (cI, 127, .inl (fun _ => 0)))] := hD
  refine va_putF (D := D9) (ty := .object "WireMessages$Names") (ci := 6) (C := R_Wm) (T := F_Wm) (N := 7) hx hb hts i_Wm t_Wm t_Wm_ok n_Wm hown hK hP hD hS 0 rfl rfl 4 (by decide) (hts _ g_226) (fun _ h9 => h9) rfl hin rfl (by decide +kernel) rfl rfl (Nat.le_of_ble_eq_true rfl) d_Wm_init_75 (fun H locs hP hD hS => ?_)
  have hP : va_P D9 cls9 [(b, .inr (6, [.ref q_tp, .ref q_ga, .ref q_re, .ref q_wr, .ref q_na, .int 0, .int 0])), (q_tp, .inr (0, [.ref q_tpr, .int 0])), (q_tpr, .inl (cB, 65536, .inl (fun _ => 0))), (q_gb, .inr (0, [.ref q_gbr, .int 0])), (q_gbr, .inl (cB, 65536, .inl (fun _ => 0))), (q_st, .inl (cI, 1100, .inl (fun _ => 0))), (q_nl, .inl (cI, 1100, .inl (fun _ => 0))), (q_dl, .inl (cI, 1100, .inl (fun _ => 0))), (q_ty, .inl (cI, 1100, .inl (fun _ => 0))), (q_ki, .inl (cI, 1100, .inl (fun _ => 0))), (q_ti, .inl (cI, 1100, .inl (fun _ => 0))), (q_rows, .inl (cG, 4, .inr (.inr (.inr (.inr (fun i => if i < 4 then some (q_rows + 1 + i) else none)))))), (q_rows + 1, .inl (cI, 1000, .inl (fun _ => 0))), (q_rows + 2, .inl (cI, 1000, .inl (fun _ => 0))), (q_rows + 3, .inl (cI, 1000, .inl (fun _ => 0))), (q_rows + 4, .inl (cI, 1000, .inl (fun _ => 0))), (q_sz, .inl (cI, 4, .inl (fun _ => 0))), (q_re, .inr (4, [.ref q_tp, .ref q_ga, .int 0, .int 0, .int 0, .int 0, .int 0, .int 0])), (q_wr, .inr (5, [.ref q_ga, .ref q_ms, .ref q_en, .ref q_ls, .ref q_lm, .int 0])), (q_ga, .inr (2, [.ref q_gb, .ref q_st, .ref q_nl, .ref q_dl, .ref q_ty, .ref q_ki, .ref q_ti, .ref q_rows, .ref q_sz, .int 0, .int 0])), (q_ms, .inr (0, [.ref q_msr, .int 0])), (q_msr, .inl (cB, 65536, .inl (fun _ => 0))), (q_ls, .inl (cI, 127, .inl (fun _ => 0))), (q_lm, .inl (cI, 127, .inl (fun _ => 0))), (q_en, .inr (1, [.ref q_gb, .ref q_ne, .ref q_ol, .ref q_mk, .ref q_pl, .ref q_so, .int 0])), (q_ne, .inl (cI, 4096, .inl (fun _ => 0))), (q_ol, .inl (cI, 8192, .inl (fun _ => 0))), (q_mk, .inl (cI, 8192, .inl (fun _ => 0))), (q_pl, .inl (cI, 8192, .inl (fun _ => 0))), (q_so, .inl (cI, 8192, .inl (fun _ => 0))), (q_na, .inr (3, [.ref q_gb, .ref q_lb, .ref q_ob])), (q_lb, .inl (cI, 127, .inl (fun _ => 0))), (q_ob, .inl (cI, 127, .inl (fun _ => 0)))] H := hP
  have hD : va_D _ [(b, .inr (6, [.ref q_tp, .ref q_ga, .ref q_re, .ref q_wr, .ref q_na, .int 0, .int 0])), (q_tp, .inr (0, [.ref q_tpr, .int 0])), (q_tpr, .inl (cB, 65536, .inl (fun _ => 0))), (q_gb, .inr (0, [.ref q_gbr, .int 0])), (q_gbr, .inl (cB, 65536, .inl (fun _ => 0))), (q_st, .inl (cI, 1100, .inl (fun _ => 0))), (q_nl, .inl (cI, 1100, .inl (fun _ => 0))), (q_dl, .inl (cI, 1100, .inl (fun _ => 0))), (q_ty, .inl (cI, 1100, .inl (fun _ => 0))), (q_ki, .inl (cI, 1100, .inl (fun _ => 0))), (q_ti, .inl (cI, 1100, .inl (fun _ => 0))), (q_rows, .inl (cG, 4, .inr (.inr (.inr (.inr (fun i => if i < 4 then some (q_rows + 1 + i) else none)))))), (q_rows + 1, .inl (cI, 1000, .inl (fun _ => 0))), (q_rows + 2, .inl (cI, 1000, .inl (fun _ => 0))), (q_rows + 3, .inl (cI, 1000, .inl (fun _ => 0))), (q_rows + 4, .inl (cI, 1000, .inl (fun _ => 0))), (q_sz, .inl (cI, 4, .inl (fun _ => 0))), (q_re, .inr (4, [.ref q_tp, .ref q_ga, .int 0, .int 0, .int 0, .int 0, .int 0, .int 0])), (q_wr, .inr (5, [.ref q_ga, .ref q_ms, .ref q_en, .ref q_ls, .ref q_lm, .int 0])), (q_ga, .inr (2, [.ref q_gb, .ref q_st, .ref q_nl, .ref q_dl, .ref q_ty, .ref q_ki, .ref q_ti, .ref q_rows, .ref q_sz, .int 0, .int 0])), (q_ms, .inr (0, [.ref q_msr, .int 0])), (q_msr, .inl (cB, 65536, .inl (fun _ => 0))), (q_ls, .inl (cI, 127, .inl (fun _ => 0))), (q_lm, .inl (cI, 127, .inl (fun _ => 0))), (q_en, .inr (1, [.ref q_gb, .ref q_ne, .ref q_ol, .ref q_mk, .ref q_pl, .ref q_so, .int 0])), (q_ne, .inl (cI, 4096, .inl (fun _ => 0))), (q_ol, .inl (cI, 8192, .inl (fun _ => 0))), (q_mk, .inl (cI, 8192, .inl (fun _ => 0))), (q_pl, .inl (cI, 8192, .inl (fun _ => 0))), (q_so, .inl (cI, 8192, .inl (fun _ => 0))), (q_na, .inr (3, [.ref q_gb, .ref q_lb, .ref q_ob])), (q_lb, .inl (cI, 127, .inl (fun _ => 0))), (q_ob, .inl (cI, 127, .inl (fun _ => 0)))] := hD
  refine lv_aload_n hx hb d_Wm_init_78 rfl (lv_at hl 0 rfl) ?_
  refine lv_iconst (v := -1) hx hb d_Wm_init_79 (by decide) ?_
  refine va_put (D := D9) (ty := .int) (ci := 6) (C := R_Wm) (T := F_Wm) (N := 7) hx hb hts i_Wm t_Wm t_Wm_ok n_Wm hown hK hP hD hS 0 rfl rfl 5 (by decide) (hts _ g_227) (fun _ h9 => h9) rfl (by decide +kernel) rfl rfl (Nat.le_of_ble_eq_true rfl) d_Wm_init_80 (fun H locs hP hD hS => ?_)
  have hP : va_P D9 cls9 [(b, .inr (6, [.ref q_tp, .ref q_ga, .ref q_re, .ref q_wr, .ref q_na, .int (-1), .int 0])), (q_tp, .inr (0, [.ref q_tpr, .int 0])), (q_tpr, .inl (cB, 65536, .inl (fun _ => 0))), (q_gb, .inr (0, [.ref q_gbr, .int 0])), (q_gbr, .inl (cB, 65536, .inl (fun _ => 0))), (q_st, .inl (cI, 1100, .inl (fun _ => 0))), (q_nl, .inl (cI, 1100, .inl (fun _ => 0))), (q_dl, .inl (cI, 1100, .inl (fun _ => 0))), (q_ty, .inl (cI, 1100, .inl (fun _ => 0))), (q_ki, .inl (cI, 1100, .inl (fun _ => 0))), (q_ti, .inl (cI, 1100, .inl (fun _ => 0))), (q_rows, .inl (cG, 4, .inr (.inr (.inr (.inr (fun i => if i < 4 then some (q_rows + 1 + i) else none)))))), (q_rows + 1, .inl (cI, 1000, .inl (fun _ => 0))), (q_rows + 2, .inl (cI, 1000, .inl (fun _ => 0))), (q_rows + 3, .inl (cI, 1000, .inl (fun _ => 0))), (q_rows + 4, .inl (cI, 1000, .inl (fun _ => 0))), (q_sz, .inl (cI, 4, .inl (fun _ => 0))), (q_re, .inr (4, [.ref q_tp, .ref q_ga, .int 0, .int 0, .int 0, .int 0, .int 0, .int 0])), (q_wr, .inr (5, [.ref q_ga, .ref q_ms, .ref q_en, .ref q_ls, .ref q_lm, .int 0])), (q_ga, .inr (2, [.ref q_gb, .ref q_st, .ref q_nl, .ref q_dl, .ref q_ty, .ref q_ki, .ref q_ti, .ref q_rows, .ref q_sz, .int 0, .int 0])), (q_ms, .inr (0, [.ref q_msr, .int 0])), (q_msr, .inl (cB, 65536, .inl (fun _ => 0))), (q_ls, .inl (cI, 127, .inl (fun _ => 0))), (q_lm, .inl (cI, 127, .inl (fun _ => 0))), (q_en, .inr (1, [.ref q_gb, .ref q_ne, .ref q_ol, .ref q_mk, .ref q_pl, .ref q_so, .int 0])), (q_ne, .inl (cI, 4096, .inl (fun _ => 0))), (q_ol, .inl (cI, 8192, .inl (fun _ => 0))), (q_mk, .inl (cI, 8192, .inl (fun _ => 0))), (q_pl, .inl (cI, 8192, .inl (fun _ => 0))), (q_so, .inl (cI, 8192, .inl (fun _ => 0))), (q_na, .inr (3, [.ref q_gb, .ref q_lb, .ref q_ob])), (q_lb, .inl (cI, 127, .inl (fun _ => 0))), (q_ob, .inl (cI, 127, .inl (fun _ => 0)))] H := hP
  have hD : va_D _ [(b, .inr (6, [.ref q_tp, .ref q_ga, .ref q_re, .ref q_wr, .ref q_na, .int (-1), .int 0])), (q_tp, .inr (0, [.ref q_tpr, .int 0])), (q_tpr, .inl (cB, 65536, .inl (fun _ => 0))), (q_gb, .inr (0, [.ref q_gbr, .int 0])), (q_gbr, .inl (cB, 65536, .inl (fun _ => 0))), (q_st, .inl (cI, 1100, .inl (fun _ => 0))), (q_nl, .inl (cI, 1100, .inl (fun _ => 0))), (q_dl, .inl (cI, 1100, .inl (fun _ => 0))), (q_ty, .inl (cI, 1100, .inl (fun _ => 0))), (q_ki, .inl (cI, 1100, .inl (fun _ => 0))), (q_ti, .inl (cI, 1100, .inl (fun _ => 0))), (q_rows, .inl (cG, 4, .inr (.inr (.inr (.inr (fun i => if i < 4 then some (q_rows + 1 + i) else none)))))), (q_rows + 1, .inl (cI, 1000, .inl (fun _ => 0))), (q_rows + 2, .inl (cI, 1000, .inl (fun _ => 0))), (q_rows + 3, .inl (cI, 1000, .inl (fun _ => 0))), (q_rows + 4, .inl (cI, 1000, .inl (fun _ => 0))), (q_sz, .inl (cI, 4, .inl (fun _ => 0))), (q_re, .inr (4, [.ref q_tp, .ref q_ga, .int 0, .int 0, .int 0, .int 0, .int 0, .int 0])), (q_wr, .inr (5, [.ref q_ga, .ref q_ms, .ref q_en, .ref q_ls, .ref q_lm, .int 0])), (q_ga, .inr (2, [.ref q_gb, .ref q_st, .ref q_nl, .ref q_dl, .ref q_ty, .ref q_ki, .ref q_ti, .ref q_rows, .ref q_sz, .int 0, .int 0])), (q_ms, .inr (0, [.ref q_msr, .int 0])), (q_msr, .inl (cB, 65536, .inl (fun _ => 0))), (q_ls, .inl (cI, 127, .inl (fun _ => 0))), (q_lm, .inl (cI, 127, .inl (fun _ => 0))), (q_en, .inr (1, [.ref q_gb, .ref q_ne, .ref q_ol, .ref q_mk, .ref q_pl, .ref q_so, .int 0])), (q_ne, .inl (cI, 4096, .inl (fun _ => 0))), (q_ol, .inl (cI, 8192, .inl (fun _ => 0))), (q_mk, .inl (cI, 8192, .inl (fun _ => 0))), (q_pl, .inl (cI, 8192, .inl (fun _ => 0))), (q_so, .inl (cI, 8192, .inl (fun _ => 0))), (q_na, .inr (3, [.ref q_gb, .ref q_lb, .ref q_ob])), (q_lb, .inl (cI, 127, .inl (fun _ => 0))), (q_ob, .inl (cI, 127, .inl (fun _ => 0)))] := hD
  refine lv_aload_n hx hb d_Wm_init_83 rfl (lv_at hl 0 rfl) ?_
  refine lv_iconst (v := 0) hx hb d_Wm_init_84 (by decide) ?_
  refine va_put (D := D9) (ty := .int) (ci := 6) (C := R_Wm) (T := F_Wm) (N := 7) hx hb hts i_Wm t_Wm t_Wm_ok n_Wm hown hK hP hD hS 0 rfl rfl 6 (by decide) (hts _ g_228) (fun _ h9 => h9) rfl (by decide +kernel) rfl rfl (Nat.le_of_ble_eq_true rfl) d_Wm_init_85 (fun H locs hP hD hS => ?_)
  have hP : va_P D9 cls9 [(b, .inr (6, [.ref q_tp, .ref q_ga, .ref q_re, .ref q_wr, .ref q_na, .int (-1), .int (0)])), (q_tp, .inr (0, [.ref q_tpr, .int 0])), (q_tpr, .inl (cB, 65536, .inl (fun _ => 0))), (q_gb, .inr (0, [.ref q_gbr, .int 0])), (q_gbr, .inl (cB, 65536, .inl (fun _ => 0))), (q_st, .inl (cI, 1100, .inl (fun _ => 0))), (q_nl, .inl (cI, 1100, .inl (fun _ => 0))), (q_dl, .inl (cI, 1100, .inl (fun _ => 0))), (q_ty, .inl (cI, 1100, .inl (fun _ => 0))), (q_ki, .inl (cI, 1100, .inl (fun _ => 0))), (q_ti, .inl (cI, 1100, .inl (fun _ => 0))), (q_rows, .inl (cG, 4, .inr (.inr (.inr (.inr (fun i => if i < 4 then some (q_rows + 1 + i) else none)))))), (q_rows + 1, .inl (cI, 1000, .inl (fun _ => 0))), (q_rows + 2, .inl (cI, 1000, .inl (fun _ => 0))), (q_rows + 3, .inl (cI, 1000, .inl (fun _ => 0))), (q_rows + 4, .inl (cI, 1000, .inl (fun _ => 0))), (q_sz, .inl (cI, 4, .inl (fun _ => 0))), (q_re, .inr (4, [.ref q_tp, .ref q_ga, .int 0, .int 0, .int 0, .int 0, .int 0, .int 0])), (q_wr, .inr (5, [.ref q_ga, .ref q_ms, .ref q_en, .ref q_ls, .ref q_lm, .int 0])), (q_ga, .inr (2, [.ref q_gb, .ref q_st, .ref q_nl, .ref q_dl, .ref q_ty, .ref q_ki, .ref q_ti, .ref q_rows, .ref q_sz, .int 0, .int 0])), (q_ms, .inr (0, [.ref q_msr, .int 0])), (q_msr, .inl (cB, 65536, .inl (fun _ => 0))), (q_ls, .inl (cI, 127, .inl (fun _ => 0))), (q_lm, .inl (cI, 127, .inl (fun _ => 0))), (q_en, .inr (1, [.ref q_gb, .ref q_ne, .ref q_ol, .ref q_mk, .ref q_pl, .ref q_so, .int 0])), (q_ne, .inl (cI, 4096, .inl (fun _ => 0))), (q_ol, .inl (cI, 8192, .inl (fun _ => 0))), (q_mk, .inl (cI, 8192, .inl (fun _ => 0))), (q_pl, .inl (cI, 8192, .inl (fun _ => 0))), (q_so, .inl (cI, 8192, .inl (fun _ => 0))), (q_na, .inr (3, [.ref q_gb, .ref q_lb, .ref q_ob])), (q_lb, .inl (cI, 127, .inl (fun _ => 0))), (q_ob, .inl (cI, 127, .inl (fun _ => 0)))] H := hP
  have hD : va_D _ [(b, .inr (6, [.ref q_tp, .ref q_ga, .ref q_re, .ref q_wr, .ref q_na, .int (-1), .int (0)])), (q_tp, .inr (0, [.ref q_tpr, .int 0])), (q_tpr, .inl (cB, 65536, .inl (fun _ => 0))), (q_gb, .inr (0, [.ref q_gbr, .int 0])), (q_gbr, .inl (cB, 65536, .inl (fun _ => 0))), (q_st, .inl (cI, 1100, .inl (fun _ => 0))), (q_nl, .inl (cI, 1100, .inl (fun _ => 0))), (q_dl, .inl (cI, 1100, .inl (fun _ => 0))), (q_ty, .inl (cI, 1100, .inl (fun _ => 0))), (q_ki, .inl (cI, 1100, .inl (fun _ => 0))), (q_ti, .inl (cI, 1100, .inl (fun _ => 0))), (q_rows, .inl (cG, 4, .inr (.inr (.inr (.inr (fun i => if i < 4 then some (q_rows + 1 + i) else none)))))), (q_rows + 1, .inl (cI, 1000, .inl (fun _ => 0))), (q_rows + 2, .inl (cI, 1000, .inl (fun _ => 0))), (q_rows + 3, .inl (cI, 1000, .inl (fun _ => 0))), (q_rows + 4, .inl (cI, 1000, .inl (fun _ => 0))), (q_sz, .inl (cI, 4, .inl (fun _ => 0))), (q_re, .inr (4, [.ref q_tp, .ref q_ga, .int 0, .int 0, .int 0, .int 0, .int 0, .int 0])), (q_wr, .inr (5, [.ref q_ga, .ref q_ms, .ref q_en, .ref q_ls, .ref q_lm, .int 0])), (q_ga, .inr (2, [.ref q_gb, .ref q_st, .ref q_nl, .ref q_dl, .ref q_ty, .ref q_ki, .ref q_ti, .ref q_rows, .ref q_sz, .int 0, .int 0])), (q_ms, .inr (0, [.ref q_msr, .int 0])), (q_msr, .inl (cB, 65536, .inl (fun _ => 0))), (q_ls, .inl (cI, 127, .inl (fun _ => 0))), (q_lm, .inl (cI, 127, .inl (fun _ => 0))), (q_en, .inr (1, [.ref q_gb, .ref q_ne, .ref q_ol, .ref q_mk, .ref q_pl, .ref q_so, .int 0])), (q_ne, .inl (cI, 4096, .inl (fun _ => 0))), (q_ol, .inl (cI, 8192, .inl (fun _ => 0))), (q_mk, .inl (cI, 8192, .inl (fun _ => 0))), (q_pl, .inl (cI, 8192, .inl (fun _ => 0))), (q_so, .inl (cI, 8192, .inl (fun _ => 0))), (q_na, .inr (3, [.ref q_gb, .ref q_lb, .ref q_ob])), (q_lb, .inl (cI, 127, .inl (fun _ => 0))), (q_ob, .inl (cI, 127, .inl (fun _ => 0)))] := hD
  exact mw_vret hx hb hr hlocks hS hP hD (by decide) (by decide) d_Wm_init_88 (⟨rfl, q_tp, q_tpr, q_ga, q_gb, q_gbr, q_st, q_nl, q_dl, q_ty, q_ki, q_ti, q_rows, q_sz, q_re, q_wr, q_ms, q_msr, q_ls, q_lm, q_en, q_ne, q_ol, q_mk, q_pl, q_so, q_na, q_lb, q_ob, rfl⟩)
end
section
theorem g_717 : (Cond.methodLink "WireMessagesModel" (1 : Nat) ({ cls := "java/lang/Object", name := "<init>", desc := "()V" } : MethodName)) ∈ GT := gt_mem 717 (by decide +kernel) rfl
theorem g_718 : (Cond.constant "WireMessagesModel" (7 : Nat) (65536 : Int32)) ∈ GT := gt_mem 718 (by decide +kernel) rfl
theorem g_719 : (Cond.constant "WireMessagesModel" (14 : Nat) (140000 : Int32)) ∈ GT := gt_mem 719 (by decide +kernel) rfl
theorem g_720 : (Cond.constant "WireMessagesModel" (47 : Nat) (131200 : Int32)) ∈ GT := gt_mem 720 (by decide +kernel) rfl
theorem g_721 : (Cond.constant "WireMessagesModel" (51 : Nat) (40000 : Int32)) ∈ GT := gt_mem 721 (by decide +kernel) rfl
theorem g_723 : (Cond.fieldLink "WireMessagesModel" (8 : Nat) "WireMessagesModel" "tape" "[B") ∈ GT := gt_mem 723 (by decide +kernel) rfl
theorem g_725 : (Cond.fieldLink "WireMessagesModel" (15 : Nat) "WireMessagesModel" "store" "[B") ∈ GT := gt_mem 725 (by decide +kernel) rfl
theorem g_730 : (Cond.fieldLink "WireMessagesModel" (18 : Nat) "WireMessagesModel" "section" "[I") ∈ GT := gt_mem 730 (by decide +kernel) rfl
theorem g_731 : (Cond.fieldLink "WireMessagesModel" (22 : Nat) "WireMessagesModel" "type" "[I") ∈ GT := gt_mem 731 (by decide +kernel) rfl
theorem g_732 : (Cond.fieldLink "WireMessagesModel" (25 : Nat) "WireMessagesModel" "kind" "[I") ∈ GT := gt_mem 732 (by decide +kernel) rfl
theorem g_733 : (Cond.fieldLink "WireMessagesModel" (28 : Nat) "WireMessagesModel" "time" "[I") ∈ GT := gt_mem 733 (by decide +kernel) rfl
theorem g_734 : (Cond.fieldLink "WireMessagesModel" (31 : Nat) "WireMessagesModel" "nameAt" "[I") ∈ GT := gt_mem 734 (by decide +kernel) rfl
theorem g_735 : (Cond.fieldLink "WireMessagesModel" (34 : Nat) "WireMessagesModel" "nameSize" "[I") ∈ GT := gt_mem 735 (by decide +kernel) rfl
theorem g_736 : (Cond.fieldLink "WireMessagesModel" (37 : Nat) "WireMessagesModel" "dataAt" "[I") ∈ GT := gt_mem 736 (by decide +kernel) rfl
theorem g_737 : (Cond.fieldLink "WireMessagesModel" (40 : Nat) "WireMessagesModel" "dataSize" "[I") ∈ GT := gt_mem 737 (by decide +kernel) rfl
theorem g_738 : (Cond.fieldLink "WireMessagesModel" (43 : Nat) "WireMessagesModel" "faultAt" "I") ∈ GT := gt_mem 738 (by decide +kernel) rfl
theorem g_745 : (Cond.fieldLink "WireMessagesModel" (48 : Nat) "WireMessagesModel" "message" "[B") ∈ GT := gt_mem 745 (by decide +kernel) rfl
theorem g_748 : (Cond.fieldLink "WireMessagesModel" (52 : Nat) "WireMessagesModel" "endPlace" "[I") ∈ GT := gt_mem 748 (by decide +kernel) rfl
theorem g_749 : (Cond.fieldLink "WireMessagesModel" (55 : Nat) "WireMessagesModel" "endAt" "[I") ∈ GT := gt_mem 749 (by decide +kernel) rfl
theorem g_751 : (Cond.fieldLink "WireMessagesModel" (58 : Nat) "WireMessagesModel" "countsWritten" "[I") ∈ GT := gt_mem 751 (by decide +kernel) rfl
theorem d_Mo_init_0 : decode b_Mo_init 0 = .ok (.aload_n 0, 1) := by decide +kernel
theorem d_Mo_init_1 : decode b_Mo_init 1 = .ok (.invokespecial 1, 3) := by decide +kernel
theorem d_Mo_init_4 : decode b_Mo_init 4 = .ok (.aload_n 0, 1) := by decide +kernel
theorem d_Mo_init_5 : decode b_Mo_init 5 = .ok (.ldc 7, 2) := by decide +kernel
theorem d_Mo_init_7 : decode b_Mo_init 7 = .ok (.newarray .byte, 2) := by decide +kernel
theorem d_Mo_init_9 : decode b_Mo_init 9 = .ok (.putfield 8, 3) := by decide +kernel
theorem d_Mo_init_12 : decode b_Mo_init 12 = .ok (.aload_n 0, 1) := by decide +kernel
theorem d_Mo_init_13 : decode b_Mo_init 13 = .ok (.ldc 14, 2) := by decide +kernel
theorem d_Mo_init_15 : decode b_Mo_init 15 = .ok (.newarray .byte, 2) := by decide +kernel
theorem d_Mo_init_17 : decode b_Mo_init 17 = .ok (.putfield 15, 3) := by decide +kernel
theorem d_Mo_init_20 : decode b_Mo_init 20 = .ok (.aload_n 0, 1) := by decide +kernel
theorem d_Mo_init_21 : decode b_Mo_init 21 = .ok (.sipush 1102, 3) := by decide +kernel
theorem d_Mo_init_24 : decode b_Mo_init 24 = .ok (.newarray .int, 2) := by decide +kernel
theorem d_Mo_init_26 : decode b_Mo_init 26 = .ok (.putfield 18, 3) := by decide +kernel
theorem d_Mo_init_29 : decode b_Mo_init 29 = .ok (.aload_n 0, 1) := by decide +kernel
theorem d_Mo_init_30 : decode b_Mo_init 30 = .ok (.sipush 1102, 3) := by decide +kernel
theorem d_Mo_init_33 : decode b_Mo_init 33 = .ok (.newarray .int, 2) := by decide +kernel
theorem d_Mo_init_35 : decode b_Mo_init 35 = .ok (.putfield 22, 3) := by decide +kernel
theorem d_Mo_init_38 : decode b_Mo_init 38 = .ok (.aload_n 0, 1) := by decide +kernel
theorem d_Mo_init_39 : decode b_Mo_init 39 = .ok (.sipush 1102, 3) := by decide +kernel
theorem d_Mo_init_42 : decode b_Mo_init 42 = .ok (.newarray .int, 2) := by decide +kernel
theorem d_Mo_init_44 : decode b_Mo_init 44 = .ok (.putfield 25, 3) := by decide +kernel
theorem d_Mo_init_47 : decode b_Mo_init 47 = .ok (.aload_n 0, 1) := by decide +kernel
theorem d_Mo_init_48 : decode b_Mo_init 48 = .ok (.sipush 1102, 3) := by decide +kernel
theorem d_Mo_init_51 : decode b_Mo_init 51 = .ok (.newarray .int, 2) := by decide +kernel
theorem d_Mo_init_53 : decode b_Mo_init 53 = .ok (.putfield 28, 3) := by decide +kernel
theorem d_Mo_init_56 : decode b_Mo_init 56 = .ok (.aload_n 0, 1) := by decide +kernel
theorem d_Mo_init_57 : decode b_Mo_init 57 = .ok (.sipush 1102, 3) := by decide +kernel
theorem d_Mo_init_60 : decode b_Mo_init 60 = .ok (.newarray .int, 2) := by decide +kernel
theorem d_Mo_init_62 : decode b_Mo_init 62 = .ok (.putfield 31, 3) := by decide +kernel
theorem d_Mo_init_65 : decode b_Mo_init 65 = .ok (.aload_n 0, 1) := by decide +kernel
theorem d_Mo_init_66 : decode b_Mo_init 66 = .ok (.sipush 1102, 3) := by decide +kernel
theorem d_Mo_init_69 : decode b_Mo_init 69 = .ok (.newarray .int, 2) := by decide +kernel
theorem d_Mo_init_71 : decode b_Mo_init 71 = .ok (.putfield 34, 3) := by decide +kernel
theorem d_Mo_init_74 : decode b_Mo_init 74 = .ok (.aload_n 0, 1) := by decide +kernel
theorem d_Mo_init_75 : decode b_Mo_init 75 = .ok (.sipush 1102, 3) := by decide +kernel
theorem d_Mo_init_78 : decode b_Mo_init 78 = .ok (.newarray .int, 2) := by decide +kernel
theorem d_Mo_init_80 : decode b_Mo_init 80 = .ok (.putfield 37, 3) := by decide +kernel
theorem d_Mo_init_83 : decode b_Mo_init 83 = .ok (.aload_n 0, 1) := by decide +kernel
theorem d_Mo_init_84 : decode b_Mo_init 84 = .ok (.sipush 1102, 3) := by decide +kernel
theorem d_Mo_init_87 : decode b_Mo_init 87 = .ok (.newarray .int, 2) := by decide +kernel
theorem d_Mo_init_89 : decode b_Mo_init 89 = .ok (.putfield 40, 3) := by decide +kernel
theorem d_Mo_init_92 : decode b_Mo_init 92 = .ok (.aload_n 0, 1) := by decide +kernel
theorem d_Mo_init_93 : decode b_Mo_init 93 = .ok (.iconst (-1), 1) := by decide +kernel
theorem d_Mo_init_94 : decode b_Mo_init 94 = .ok (.putfield 43, 3) := by decide +kernel
theorem d_Mo_init_97 : decode b_Mo_init 97 = .ok (.aload_n 0, 1) := by decide +kernel
theorem d_Mo_init_98 : decode b_Mo_init 98 = .ok (.ldc 47, 2) := by decide +kernel
theorem d_Mo_init_100 : decode b_Mo_init 100 = .ok (.newarray .byte, 2) := by decide +kernel
theorem d_Mo_init_102 : decode b_Mo_init 102 = .ok (.putfield 48, 3) := by decide +kernel
theorem d_Mo_init_105 : decode b_Mo_init 105 = .ok (.aload_n 0, 1) := by decide +kernel
theorem d_Mo_init_106 : decode b_Mo_init 106 = .ok (.ldc 51, 2) := by decide +kernel
theorem d_Mo_init_108 : decode b_Mo_init 108 = .ok (.newarray .int, 2) := by decide +kernel
theorem d_Mo_init_110 : decode b_Mo_init 110 = .ok (.putfield 52, 3) := by decide +kernel
theorem d_Mo_init_113 : decode b_Mo_init 113 = .ok (.aload_n 0, 1) := by decide +kernel
theorem d_Mo_init_114 : decode b_Mo_init 114 = .ok (.ldc 51, 2) := by decide +kernel
theorem d_Mo_init_116 : decode b_Mo_init 116 = .ok (.newarray .int, 2) := by decide +kernel
theorem d_Mo_init_118 : decode b_Mo_init 118 = .ok (.putfield 55, 3) := by decide +kernel
theorem d_Mo_init_121 : decode b_Mo_init 121 = .ok (.aload_n 0, 1) := by decide +kernel
theorem d_Mo_init_122 : decode b_Mo_init 122 = .ok (.iconst 4, 1) := by decide +kernel
theorem d_Mo_init_123 : decode b_Mo_init 123 = .ok (.newarray .int, 2) := by decide +kernel
theorem d_Mo_init_125 : decode b_Mo_init 125 = .ok (.putfield 58, 3) := by decide +kernel
theorem d_Mo_init_128 : decode b_Mo_init 128 = .ok (.return_, 1) := by decide +kernel
set_option maxHeartbeats 4000000 in
set_option maxRecDepth 100000 in
theorem c_Mo_init (l : Launch) (D9 : va_G) (cB cI cJ cG : ClassId) (b : Nat) : MW l D9 cls9 (ty9 cB cI cJ cG) y_Mo_init b_Mo_init 1 none (rm9 1 14 425556) [.ref b] [(b, .inr (7, [.int 0, .null, .int 0, .null, .int 0, .int 0, .int 0, .int 0, .null, .null, .null, .null, .null, .null, .null, .null, .int 0, .int 0, .int 0, .int 0, .int 0, .int 0, .int 0, .null, .int 0, .int 0, .null, .null, .int 0, .null]))] (fun v w2 => v = none ∧ ∃ q_m_tape q_m_store q_m_section q_m_type q_m_kind q_m_time q_m_nameAt q_m_nameSize q_m_dataAt q_m_dataSize q_m_message q_m_endPlace q_m_endAt q_m_countsWritten, w2 = [(b, .inr (7, [.int 0, .ref q_m_tape, .int 0, .ref q_m_store, .int 0, .int 0, .int 0, .int 0, .ref q_m_section, .ref q_m_type, .ref q_m_kind, .ref q_m_time, .ref q_m_nameAt, .ref q_m_nameSize, .ref q_m_dataAt, .ref q_m_dataSize, .int (-1), .int 0, .int 0, .int 0, .int 0, .int 0, .int 0, .ref q_m_message, .int 0, .int 0, .ref q_m_endPlace, .ref q_m_endAt, .int 0, .ref q_m_countsWritten])), (q_m_tape, .inl (cB, 65536, .inl (fun _ => 0))), (q_m_store, .inl (cB, 140000, .inl (fun _ => 0))), (q_m_section, .inl (cI, 1102, .inl (fun _ => 0))), (q_m_type, .inl (cI, 1102, .inl (fun _ => 0))), (q_m_kind, .inl (cI, 1102, .inl (fun _ => 0))), (q_m_time, .inl (cI, 1102, .inl (fun _ => 0))), (q_m_nameAt, .inl (cI, 1102, .inl (fun _ => 0))), (q_m_nameSize, .inl (cI, 1102, .inl (fun _ => 0))), (q_m_dataAt, .inl (cI, 1102, .inl (fun _ => 0))), (q_m_dataSize, .inl (cI, 1102, .inl (fun _ => 0))), (q_m_message, .inl (cB, 131200, .inl (fun _ => 0))), (q_m_endPlace, .inl (cI, 40000, .inl (fun _ => 0))), (q_m_endAt, .inl (cI, 40000, .inl (fun _ => 0))), (q_m_countsWritten, .inl (cI, 4, .inl (fun _ => 0)))]) 14 425556 := by
  refine mw_of (by decide) (Nat.le_of_ble_eq_true rfl) ?_
  intro p e s m below meth c ls C0 hin hP hD hA hS hl
  obtain ⟨hx, hb, hml, hr, hlocks, hown, hts, hK⟩ := id C0
  have hl : lv_has ls 1 [(0, .ref b)] := hl
  refine lv_aload_n hx hb d_Mo_init_0 rfl (lv_at hl 0 rfl) ?_
  refine W.objInit hx hb hown (hts _ g_717) (hts _ g_26) (hts _ g_27) rfl (by rw [hml]; exact hl.1) rfl d_Mo_init_1 (Nat.le_of_ble_eq_true rfl) (Nat.le_of_ble_eq_true rfl) ?_
  refine W.eq (g2 := F0 m 4 ls []) rfl ?_
  refine lv_aload_n hx hb d_Mo_init_4 rfl (lv_at hl 0 rfl) ?_
  refine lv_ldc hx hb hown (hts _ g_718) d_Mo_init_5 ?_
  refine mw_newa (D := D9) (atype := .byte) (a0 := (65536, .inl (fun _ => 0))) (t := 0) (ty := .byte) hx hb (hts _ g_46) rfl (fun _ h => h) hK rfl hP hD hS hA (fun _ => rfl) (by decide) (by decide) (by decide) (by decide) (by decide) d_Mo_init_7 (fun q_m_tape H hP hD hS => ?_)
  have hP : va_P D9 cls9 [(b, .inr (7, [.int 0, .null, .int 0, .null, .int 0, .int 0, .int 0, .int 0, .null, .null, .null, .null, .null, .null, .null, .null, .int 0, .int 0, .int 0, .int 0, .int 0, .int 0, .int 0, .null, .int 0, .int 0, .null, .null, .int 0, .null])), (q_m_tape, .inl (cB, 65536, .inl (fun _ => 0)))] H := hP
  have hD : va_D _ [(b, .inr (7, [.int 0, .null, .int 0, .null, .int 0, .int 0, .int 0, .int 0, .null, .null, .null, .null, .null, .null, .null, .null, .int 0, .int 0, .int 0, .int 0, .int 0, .int 0, .int 0, .null, .int 0, .int 0, .null, .null, .int 0, .null])), (q_m_tape, .inl (cB, 65536, .inl (fun _ => 0)))] := hD
  refine va_putF (D := D9) (ty := .array (.byte)) (ci := 7) (C := R_Mo) (T := F_Mo) (N := 30) hx hb hts i_Mo t_Mo t_Mo_ok n_Mo hown hK hP hD hS 0 rfl rfl 1 (by decide) (hts _ g_723) (fun _ h9 => h9) rfl hin rfl (by decide +kernel) rfl rfl (Nat.le_of_ble_eq_true rfl) d_Mo_init_9 (fun H locs hP hD hS => ?_)
  have hP : va_P D9 cls9 [(b, .inr (7, [.int 0, .ref q_m_tape, .int 0, .null, .int 0, .int 0, .int 0, .int 0, .null, .null, .null, .null, .null, .null, .null, .null, .int 0, .int 0, .int 0, .int 0, .int 0, .int 0, .int 0, .null, .int 0, .int 0, .null, .null, .int 0, .null])), (q_m_tape, .inl (cB, 65536, .inl (fun _ => 0)))] H := hP
  have hD : va_D _ [(b, .inr (7, [.int 0, .ref q_m_tape, .int 0, .null, .int 0, .int 0, .int 0, .int 0, .null, .null, .null, .null, .null, .null, .null, .null, .int 0, .int 0, .int 0, .int 0, .int 0, .int 0, .int 0, .null, .int 0, .int 0, .null, .null, .int 0, .null])), (q_m_tape, .inl (cB, 65536, .inl (fun _ => 0)))] := hD
  refine lv_aload_n hx hb d_Mo_init_12 rfl (lv_at hl 0 rfl) ?_
  refine lv_ldc hx hb hown (hts _ g_719) d_Mo_init_13 ?_
  refine mw_newa (D := D9) (atype := .byte) (a0 := (140000, .inl (fun _ => 0))) (t := 0) (ty := .byte) hx hb (hts _ g_46) rfl (fun _ h => h) hK rfl hP hD hS hA (fun _ => rfl) (by decide) (by decide) (by decide) (by decide) (by decide) d_Mo_init_15 (fun q_m_store H hP hD hS => ?_)
  have hP : va_P D9 cls9 [(b, .inr (7, [.int 0, .ref q_m_tape, .int 0, .null, .int 0, .int 0, .int 0, .int 0, .null, .null, .null, .null, .null, .null, .null, .null, .int 0, .int 0, .int 0, .int 0, .int 0, .int 0, .int 0, .null, .int 0, .int 0, .null, .null, .int 0, .null])), (q_m_tape, .inl (cB, 65536, .inl (fun _ => 0))), (q_m_store, .inl (cB, 140000, .inl (fun _ => 0)))] H := hP
  have hD : va_D _ [(b, .inr (7, [.int 0, .ref q_m_tape, .int 0, .null, .int 0, .int 0, .int 0, .int 0, .null, .null, .null, .null, .null, .null, .null, .null, .int 0, .int 0, .int 0, .int 0, .int 0, .int 0, .int 0, .null, .int 0, .int 0, .null, .null, .int 0, .null])), (q_m_tape, .inl (cB, 65536, .inl (fun _ => 0))), (q_m_store, .inl (cB, 140000, .inl (fun _ => 0)))] := hD
  refine va_putF (D := D9) (ty := .array (.byte)) (ci := 7) (C := R_Mo) (T := F_Mo) (N := 30) hx hb hts i_Mo t_Mo t_Mo_ok n_Mo hown hK hP hD hS 0 rfl rfl 3 (by decide) (hts _ g_725) (fun _ h9 => h9) rfl hin rfl (by decide +kernel) rfl rfl (Nat.le_of_ble_eq_true rfl) d_Mo_init_17 (fun H locs hP hD hS => ?_)
  have hP : va_P D9 cls9 [(b, .inr (7, [.int 0, .ref q_m_tape, .int 0, .ref q_m_store, .int 0, .int 0, .int 0, .int 0, .null, .null, .null, .null, .null, .null, .null, .null, .int 0, .int 0, .int 0, .int 0, .int 0, .int 0, .int 0, .null, .int 0, .int 0, .null, .null, .int 0, .null])), (q_m_tape, .inl (cB, 65536, .inl (fun _ => 0))), (q_m_store, .inl (cB, 140000, .inl (fun _ => 0)))] H := hP
  have hD : va_D _ [(b, .inr (7, [.int 0, .ref q_m_tape, .int 0, .ref q_m_store, .int 0, .int 0, .int 0, .int 0, .null, .null, .null, .null, .null, .null, .null, .null, .int 0, .int 0, .int 0, .int 0, .int 0, .int 0, .int 0, .null, .int 0, .int 0, .null, .null, .int 0, .null])), (q_m_tape, .inl (cB, 65536, .inl (fun _ => 0))), (q_m_store, .inl (cB, 140000, .inl (fun _ => 0)))] := hD
  refine lv_aload_n hx hb d_Mo_init_20 rfl (lv_at hl 0 rfl) ?_
  refine lv_sipush (v := 1102) hx hb d_Mo_init_21 (by decide) ?_
  refine mw_newa (D := D9) (atype := .int) (a0 := (1102, .inl (fun _ => 0))) (t := 1) (ty := .int) hx hb (hts _ g_113) rfl (fun _ h => h) hK rfl hP hD hS hA (fun _ => rfl) (by decide) (by decide) (by decide) (by decide) (by decide) d_Mo_init_24 (fun q_m_section H hP hD hS => ?_)
  have hP : va_P D9 cls9 [(b, .inr (7, [.int 0, .ref q_m_tape, .int 0, .ref q_m_store, .int 0, .int 0, .int 0, .int 0, .null, .null, .null, .null, .null, .null, .null, .null, .int 0, .int 0, .int 0, .int 0, .int 0, .int 0, .int 0, .null, .int 0, .int 0, .null, .null, .int 0, .null])), (q_m_tape, .inl (cB, 65536, .inl (fun _ => 0))), (q_m_store, .inl (cB, 140000, .inl (fun _ => 0))), (q_m_section, .inl (cI, 1102, .inl (fun _ => 0)))] H := hP
  have hD : va_D _ [(b, .inr (7, [.int 0, .ref q_m_tape, .int 0, .ref q_m_store, .int 0, .int 0, .int 0, .int 0, .null, .null, .null, .null, .null, .null, .null, .null, .int 0, .int 0, .int 0, .int 0, .int 0, .int 0, .int 0, .null, .int 0, .int 0, .null, .null, .int 0, .null])), (q_m_tape, .inl (cB, 65536, .inl (fun _ => 0))), (q_m_store, .inl (cB, 140000, .inl (fun _ => 0))), (q_m_section, .inl (cI, 1102, .inl (fun _ => 0)))] := hD
  refine va_putF (D := D9) (ty := .array (.int)) (ci := 7) (C := R_Mo) (T := F_Mo) (N := 30) hx hb hts i_Mo t_Mo t_Mo_ok n_Mo hown hK hP hD hS 0 rfl rfl 8 (by decide) (hts _ g_730) (fun _ h9 => h9) rfl hin rfl (by decide +kernel) rfl rfl (Nat.le_of_ble_eq_true rfl) d_Mo_init_26 (fun H locs hP hD hS => ?_)
  have hP : va_P D9 cls9 [(b, .inr (7, [.int 0, .ref q_m_tape, .int 0, .ref q_m_store, .int 0, .int 0, .int 0, .int 0, .ref q_m_section, .null, .null, .null, .null, .null, .null, .null, .int 0, .int 0, .int 0, .int 0, .int 0, .int 0, .int 0, .null, .int 0, .int 0, .null, .null, .int 0, .null])), (q_m_tape, .inl (cB, 65536, .inl (fun _ => 0))), (q_m_store, .inl (cB, 140000, .inl (fun _ => 0))), (q_m_section, .inl (cI, 1102, .inl (fun _ => 0)))] H := hP
  have hD : va_D _ [(b, .inr (7, [.int 0, .ref q_m_tape, .int 0, .ref q_m_store, .int 0, .int 0, .int 0, .int 0, .ref q_m_section, .null, .null, .null, .null, .null, .null, .null, .int 0, .int 0, .int 0, .int 0, .int 0, .int 0, .int 0, .null, .int 0, .int 0, .null, .null, .int 0, .null])), (q_m_tape, .inl (cB, 65536, .inl (fun _ => 0))), (q_m_store, .inl (cB, 140000, .inl (fun _ => 0))), (q_m_section, .inl (cI, 1102, .inl (fun _ => 0)))] := hD
  refine lv_aload_n hx hb d_Mo_init_29 rfl (lv_at hl 0 rfl) ?_
  refine lv_sipush (v := 1102) hx hb d_Mo_init_30 (by decide) ?_
  refine mw_newa (D := D9) (atype := .int) (a0 := (1102, .inl (fun _ => 0))) (t := 1) (ty := .int) hx hb (hts _ g_113) rfl (fun _ h => h) hK rfl hP hD hS hA (fun _ => rfl) (by decide) (by decide) (by decide) (by decide) (by decide) d_Mo_init_33 (fun q_m_type H hP hD hS => ?_)
  have hP : va_P D9 cls9 [(b, .inr (7, [.int 0, .ref q_m_tape, .int 0, .ref q_m_store, .int 0, .int 0, .int 0, .int 0, .ref q_m_section, .null, .null, .null, .null, .null, .null, .null, .int 0, .int 0, .int 0, .int 0, .int 0, .int 0, .int 0, .null, .int 0, .int 0, .null, .null, .int 0, .null])), (q_m_tape, .inl (cB, 65536, .inl (fun _ => 0))), (q_m_store, .inl (cB, 140000, .inl (fun _ => 0))), (q_m_section, .inl (cI, 1102, .inl (fun _ => 0))), (q_m_type, .inl (cI, 1102, .inl (fun _ => 0)))] H := hP
  have hD : va_D _ [(b, .inr (7, [.int 0, .ref q_m_tape, .int 0, .ref q_m_store, .int 0, .int 0, .int 0, .int 0, .ref q_m_section, .null, .null, .null, .null, .null, .null, .null, .int 0, .int 0, .int 0, .int 0, .int 0, .int 0, .int 0, .null, .int 0, .int 0, .null, .null, .int 0, .null])), (q_m_tape, .inl (cB, 65536, .inl (fun _ => 0))), (q_m_store, .inl (cB, 140000, .inl (fun _ => 0))), (q_m_section, .inl (cI, 1102, .inl (fun _ => 0))), (q_m_type, .inl (cI, 1102, .inl (fun _ => 0)))] := hD
  refine va_putF (D := D9) (ty := .array (.int)) (ci := 7) (C := R_Mo) (T := F_Mo) (N := 30) hx hb hts i_Mo t_Mo t_Mo_ok n_Mo hown hK hP hD hS 0 rfl rfl 9 (by decide) (hts _ g_731) (fun _ h9 => h9) rfl hin rfl (by decide +kernel) rfl rfl (Nat.le_of_ble_eq_true rfl) d_Mo_init_35 (fun H locs hP hD hS => ?_)
  have hP : va_P D9 cls9 [(b, .inr (7, [.int 0, .ref q_m_tape, .int 0, .ref q_m_store, .int 0, .int 0, .int 0, .int 0, .ref q_m_section, .ref q_m_type, .null, .null, .null, .null, .null, .null, .int 0, .int 0, .int 0, .int 0, .int 0, .int 0, .int 0, .null, .int 0, .int 0, .null, .null, .int 0, .null])), (q_m_tape, .inl (cB, 65536, .inl (fun _ => 0))), (q_m_store, .inl (cB, 140000, .inl (fun _ => 0))), (q_m_section, .inl (cI, 1102, .inl (fun _ => 0))), (q_m_type, .inl (cI, 1102, .inl (fun _ => 0)))] H := hP
  have hD : va_D _ [(b, .inr (7, [.int 0, .ref q_m_tape, .int 0, .ref q_m_store, .int 0, .int 0, .int 0, .int 0, .ref q_m_section, .ref q_m_type, .null, .null, .null, .null, .null, .null, .int 0, .int 0, .int 0, .int 0, .int 0, .int 0, .int 0, .null, .int 0, .int 0, .null, .null, .int 0, .null])), (q_m_tape, .inl (cB, 65536, .inl (fun _ => 0))), (q_m_store, .inl (cB, 140000, .inl (fun _ => 0))), (q_m_section, .inl (cI, 1102, .inl (fun _ => 0))), (q_m_type, .inl (cI, 1102, .inl (fun _ => 0)))] := hD
  refine lv_aload_n hx hb d_Mo_init_38 rfl (lv_at hl 0 rfl) ?_
  refine lv_sipush (v := 1102) hx hb d_Mo_init_39 (by decide) ?_
  refine mw_newa (D := D9) (atype := .int) (a0 := (1102, .inl (fun _ => 0))) (t := 1) (ty := .int) hx hb (hts _ g_113) rfl (fun _ h => h) hK rfl hP hD hS hA (fun _ => rfl) (by decide) (by decide) (by decide) (by decide) (by decide) d_Mo_init_42 (fun q_m_kind H hP hD hS => ?_)
  have hP : va_P D9 cls9 [(b, .inr (7, [.int 0, .ref q_m_tape, .int 0, .ref q_m_store, .int 0, .int 0, .int 0, .int 0, .ref q_m_section, .ref q_m_type, .null, .null, .null, .null, .null, .null, .int 0, .int 0, .int 0, .int 0, .int 0, .int 0, .int 0, .null, .int 0, .int 0, .null, .null, .int 0, .null])), (q_m_tape, .inl (cB, 65536, .inl (fun _ => 0))), (q_m_store, .inl (cB, 140000, .inl (fun _ => 0))), (q_m_section, .inl (cI, 1102, .inl (fun _ => 0))), (q_m_type, .inl (cI, 1102, .inl (fun _ => 0))), (q_m_kind, .inl (cI, 1102, .inl (fun _ => 0)))] H := hP
  have hD : va_D _ [(b, .inr (7, [.int 0, .ref q_m_tape, .int 0, .ref q_m_store, .int 0, .int 0, .int 0, .int 0, .ref q_m_section, .ref q_m_type, .null, .null, .null, .null, .null, .null, .int 0, .int 0, .int 0, .int 0, .int 0, .int 0, .int 0, .null, .int 0, .int 0, .null, .null, .int 0, .null])), (q_m_tape, .inl (cB, 65536, .inl (fun _ => 0))), (q_m_store, .inl (cB, 140000, .inl (fun _ => 0))), (q_m_section, .inl (cI, 1102, .inl (fun _ => 0))), (q_m_type, .inl (cI, 1102, .inl (fun _ => 0))), (q_m_kind, .inl (cI, 1102, .inl (fun _ => 0)))] := hD
  refine va_putF (D := D9) (ty := .array (.int)) (ci := 7) (C := R_Mo) (T := F_Mo) (N := 30) hx hb hts i_Mo t_Mo t_Mo_ok n_Mo hown hK hP hD hS 0 rfl rfl 10 (by decide) (hts _ g_732) (fun _ h9 => h9) rfl hin rfl (by decide +kernel) rfl rfl (Nat.le_of_ble_eq_true rfl) d_Mo_init_44 (fun H locs hP hD hS => ?_)
  have hP : va_P D9 cls9 [(b, .inr (7, [.int 0, .ref q_m_tape, .int 0, .ref q_m_store, .int 0, .int 0, .int 0, .int 0, .ref q_m_section, .ref q_m_type, .ref q_m_kind, .null, .null, .null, .null, .null, .int 0, .int 0, .int 0, .int 0, .int 0, .int 0, .int 0, .null, .int 0, .int 0, .null, .null, .int 0, .null])), (q_m_tape, .inl (cB, 65536, .inl (fun _ => 0))), (q_m_store, .inl (cB, 140000, .inl (fun _ => 0))), (q_m_section, .inl (cI, 1102, .inl (fun _ => 0))), (q_m_type, .inl (cI, 1102, .inl (fun _ => 0))), (q_m_kind, .inl (cI, 1102, .inl (fun _ => 0)))] H := hP
  have hD : va_D _ [(b, .inr (7, [.int 0, .ref q_m_tape, .int 0, .ref q_m_store, .int 0, .int 0, .int 0, .int 0, .ref q_m_section, .ref q_m_type, .ref q_m_kind, .null, .null, .null, .null, .null, .int 0, .int 0, .int 0, .int 0, .int 0, .int 0, .int 0, .null, .int 0, .int 0, .null, .null, .int 0, .null])), (q_m_tape, .inl (cB, 65536, .inl (fun _ => 0))), (q_m_store, .inl (cB, 140000, .inl (fun _ => 0))), (q_m_section, .inl (cI, 1102, .inl (fun _ => 0))), (q_m_type, .inl (cI, 1102, .inl (fun _ => 0))), (q_m_kind, .inl (cI, 1102, .inl (fun _ => 0)))] := hD
  refine lv_aload_n hx hb d_Mo_init_47 rfl (lv_at hl 0 rfl) ?_
  refine lv_sipush (v := 1102) hx hb d_Mo_init_48 (by decide) ?_
  refine mw_newa (D := D9) (atype := .int) (a0 := (1102, .inl (fun _ => 0))) (t := 1) (ty := .int) hx hb (hts _ g_113) rfl (fun _ h => h) hK rfl hP hD hS hA (fun _ => rfl) (by decide) (by decide) (by decide) (by decide) (by decide) d_Mo_init_51 (fun q_m_time H hP hD hS => ?_)
  have hP : va_P D9 cls9 [(b, .inr (7, [.int 0, .ref q_m_tape, .int 0, .ref q_m_store, .int 0, .int 0, .int 0, .int 0, .ref q_m_section, .ref q_m_type, .ref q_m_kind, .null, .null, .null, .null, .null, .int 0, .int 0, .int 0, .int 0, .int 0, .int 0, .int 0, .null, .int 0, .int 0, .null, .null, .int 0, .null])), (q_m_tape, .inl (cB, 65536, .inl (fun _ => 0))), (q_m_store, .inl (cB, 140000, .inl (fun _ => 0))), (q_m_section, .inl (cI, 1102, .inl (fun _ => 0))), (q_m_type, .inl (cI, 1102, .inl (fun _ => 0))), (q_m_kind, .inl (cI, 1102, .inl (fun _ => 0))), (q_m_time, .inl (cI, 1102, .inl (fun _ => 0)))] H := hP
  have hD : va_D _ [(b, .inr (7, [.int 0, .ref q_m_tape, .int 0, .ref q_m_store, .int 0, .int 0, .int 0, .int 0, .ref q_m_section, .ref q_m_type, .ref q_m_kind, .null, .null, .null, .null, .null, .int 0, .int 0, .int 0, .int 0, .int 0, .int 0, .int 0, .null, .int 0, .int 0, .null, .null, .int 0, .null])), (q_m_tape, .inl (cB, 65536, .inl (fun _ => 0))), (q_m_store, .inl (cB, 140000, .inl (fun _ => 0))), (q_m_section, .inl (cI, 1102, .inl (fun _ => 0))), (q_m_type, .inl (cI, 1102, .inl (fun _ => 0))), (q_m_kind, .inl (cI, 1102, .inl (fun _ => 0))), (q_m_time, .inl (cI, 1102, .inl (fun _ => 0)))] := hD
  refine va_putF (D := D9) (ty := .array (.int)) (ci := 7) (C := R_Mo) (T := F_Mo) (N := 30) hx hb hts i_Mo t_Mo t_Mo_ok n_Mo hown hK hP hD hS 0 rfl rfl 11 (by decide) (hts _ g_733) (fun _ h9 => h9) rfl hin rfl (by decide +kernel) rfl rfl (Nat.le_of_ble_eq_true rfl) d_Mo_init_53 (fun H locs hP hD hS => ?_)
  have hP : va_P D9 cls9 [(b, .inr (7, [.int 0, .ref q_m_tape, .int 0, .ref q_m_store, .int 0, .int 0, .int 0, .int 0, .ref q_m_section, .ref q_m_type, .ref q_m_kind, .ref q_m_time, .null, .null, .null, .null, .int 0, .int 0, .int 0, .int 0, .int 0, .int 0, .int 0, .null, .int 0, .int 0, .null, .null, .int 0, .null])), (q_m_tape, .inl (cB, 65536, .inl (fun _ => 0))), (q_m_store, .inl (cB, 140000, .inl (fun _ => 0))), (q_m_section, .inl (cI, 1102, .inl (fun _ => 0))), (q_m_type, .inl (cI, 1102, .inl (fun _ => 0))), (q_m_kind, .inl (cI, 1102, .inl (fun _ => 0))), (q_m_time, .inl (cI, 1102, .inl (fun _ => 0)))] H := hP
  have hD : va_D _ [(b, .inr (7, [.int 0, .ref q_m_tape, .int 0, .ref q_m_store, .int 0, .int 0, .int 0, .int 0, .ref q_m_section, .ref q_m_type, .ref q_m_kind, .ref q_m_time, .null, .null, .null, .null, .int 0, .int 0, .int 0, .int 0, .int 0, .int 0, .int 0, .null, .int 0, .int 0, .null, .null, .int 0, .null])), (q_m_tape, .inl (cB, 65536, .inl (fun _ => 0))), (q_m_store, .inl (cB, 140000, .inl (fun _ => 0))), (q_m_section, .inl (cI, 1102, .inl (fun _ => 0))), (q_m_type, .inl (cI, 1102, .inl (fun _ => 0))), (q_m_kind, .inl (cI, 1102, .inl (fun _ => 0))), (q_m_time, .inl (cI, 1102, .inl (fun _ => 0)))] := hD
  refine lv_aload_n hx hb d_Mo_init_56 rfl (lv_at hl 0 rfl) ?_
  refine lv_sipush (v := 1102) hx hb d_Mo_init_57 (by decide) ?_
  refine mw_newa (D := D9) (atype := .int) (a0 := (1102, .inl (fun _ => 0))) (t := 1) (ty := .int) hx hb (hts _ g_113) rfl (fun _ h => h) hK rfl hP hD hS hA (fun _ => rfl) (by decide) (by decide) (by decide) (by decide) (by decide) d_Mo_init_60 (fun q_m_nameAt H hP hD hS => ?_)
  have hP : va_P D9 cls9 [(b, .inr (7, [.int 0, .ref q_m_tape, .int 0, .ref q_m_store, .int 0, .int 0, .int 0, .int 0, .ref q_m_section, .ref q_m_type, .ref q_m_kind, .ref q_m_time, .null, .null, .null, .null, .int 0, .int 0, .int 0, .int 0, .int 0, .int 0, .int 0, .null, .int 0, .int 0, .null, .null, .int 0, .null])), (q_m_tape, .inl (cB, 65536, .inl (fun _ => 0))), (q_m_store, .inl (cB, 140000, .inl (fun _ => 0))), (q_m_section, .inl (cI, 1102, .inl (fun _ => 0))), (q_m_type, .inl (cI, 1102, .inl (fun _ => 0))), (q_m_kind, .inl (cI, 1102, .inl (fun _ => 0))), (q_m_time, .inl (cI, 1102, .inl (fun _ => 0))), (q_m_nameAt, .inl (cI, 1102, .inl (fun _ => 0)))] H := hP
  have hD : va_D _ [(b, .inr (7, [.int 0, .ref q_m_tape, .int 0, .ref q_m_store, .int 0, .int 0, .int 0, .int 0, .ref q_m_section, .ref q_m_type, .ref q_m_kind, .ref q_m_time, .null, .null, .null, .null, .int 0, .int 0, .int 0, .int 0, .int 0, .int 0, .int 0, .null, .int 0, .int 0, .null, .null, .int 0, .null])), (q_m_tape, .inl (cB, 65536, .inl (fun _ => 0))), (q_m_store, .inl (cB, 140000, .inl (fun _ => 0))), (q_m_section, .inl (cI, 1102, .inl (fun _ => 0))), (q_m_type, .inl (cI, 1102, .inl (fun _ => 0))), (q_m_kind, .inl (cI, 1102, .inl (fun _ => 0))), (q_m_time, .inl (cI, 1102, .inl (fun _ => 0))), (q_m_nameAt, .inl (cI, 1102, .inl (fun _ => 0)))] := hD
  refine va_putF (D := D9) (ty := .array (.int)) (ci := 7) (C := R_Mo) (T := F_Mo) (N := 30) hx hb hts i_Mo t_Mo t_Mo_ok n_Mo hown hK hP hD hS 0 rfl rfl 12 (by decide) (hts _ g_734) (fun _ h9 => h9) rfl hin rfl (by decide +kernel) rfl rfl (Nat.le_of_ble_eq_true rfl) d_Mo_init_62 (fun H locs hP hD hS => ?_)
  have hP : va_P D9 cls9 [(b, .inr (7, [.int 0, .ref q_m_tape, .int 0, .ref q_m_store, .int 0, .int 0, .int 0, .int 0, .ref q_m_section, .ref q_m_type, .ref q_m_kind, .ref q_m_time, .ref q_m_nameAt, .null, .null, .null, .int 0, .int 0, .int 0, .int 0, .int 0, .int 0, .int 0, .null, .int 0, .int 0, .null, .null, .int 0, .null])), (q_m_tape, .inl (cB, 65536, .inl (fun _ => 0))), (q_m_store, .inl (cB, 140000, .inl (fun _ => 0))), (q_m_section, .inl (cI, 1102, .inl (fun _ => 0))), (q_m_type, .inl (cI, 1102, .inl (fun _ => 0))), (q_m_kind, .inl (cI, 1102, .inl (fun _ => 0))), (q_m_time, .inl (cI, 1102, .inl (fun _ => 0))), (q_m_nameAt, .inl (cI, 1102, .inl (fun _ => 0)))] H := hP
  have hD : va_D _ [(b, .inr (7, [.int 0, .ref q_m_tape, .int 0, .ref q_m_store, .int 0, .int 0, .int 0, .int 0, .ref q_m_section, .ref q_m_type, .ref q_m_kind, .ref q_m_time, .ref q_m_nameAt, .null, .null, .null, .int 0, .int 0, .int 0, .int 0, .int 0, .int 0, .int 0, .null, .int 0, .int 0, .null, .null, .int 0, .null])), (q_m_tape, .inl (cB, 65536, .inl (fun _ => 0))), (q_m_store, .inl (cB, 140000, .inl (fun _ => 0))), (q_m_section, .inl (cI, 1102, .inl (fun _ => 0))), (q_m_type, .inl (cI, 1102, .inl (fun _ => 0))), (q_m_kind, .inl (cI, 1102, .inl (fun _ => 0))), (q_m_time, .inl (cI, 1102, .inl (fun _ => 0))), (q_m_nameAt, .inl (cI, 1102, .inl (fun _ => 0)))] := hD
  refine lv_aload_n hx hb d_Mo_init_65 rfl (lv_at hl 0 rfl) ?_
  refine lv_sipush (v := 1102) hx hb d_Mo_init_66 (by decide) ?_
  refine mw_newa (D := D9) (atype := .int) (a0 := (1102, .inl (fun _ => 0))) (t := 1) (ty := .int) hx hb (hts _ g_113) rfl (fun _ h => h) hK rfl hP hD hS hA (fun _ => rfl) (by decide) (by decide) (by decide) (by decide) (by decide) d_Mo_init_69 (fun q_m_nameSize H hP hD hS => ?_)
  have hP : va_P D9 cls9 [(b, .inr (7, [.int 0, .ref q_m_tape, .int 0, .ref q_m_store, .int 0, .int 0, .int 0, .int 0, .ref q_m_section, .ref q_m_type, .ref q_m_kind, .ref q_m_time, .ref q_m_nameAt, .null, .null, .null, .int 0, .int 0, .int 0, .int 0, .int 0, .int 0, .int 0, .null, .int 0, .int 0, .null, .null, .int 0, .null])), (q_m_tape, .inl (cB, 65536, .inl (fun _ => 0))), (q_m_store, .inl (cB, 140000, .inl (fun _ => 0))), (q_m_section, .inl (cI, 1102, .inl (fun _ => 0))), (q_m_type, .inl (cI, 1102, .inl (fun _ => 0))), (q_m_kind, .inl (cI, 1102, .inl (fun _ => 0))), (q_m_time, .inl (cI, 1102, .inl (fun _ => 0))), (q_m_nameAt, .inl (cI, 1102, .inl (fun _ => 0))), (q_m_nameSize, .inl (cI, 1102, .inl (fun _ => 0)))] H := hP
  have hD : va_D _ [(b, .inr (7, [.int 0, .ref q_m_tape, .int 0, .ref q_m_store, .int 0, .int 0, .int 0, .int 0, .ref q_m_section, .ref q_m_type, .ref q_m_kind, .ref q_m_time, .ref q_m_nameAt, .null, .null, .null, .int 0, .int 0, .int 0, .int 0, .int 0, .int 0, .int 0, .null, .int 0, .int 0, .null, .null, .int 0, .null])), (q_m_tape, .inl (cB, 65536, .inl (fun _ => 0))), (q_m_store, .inl (cB, 140000, .inl (fun _ => 0))), (q_m_section, .inl (cI, 1102, .inl (fun _ => 0))), (q_m_type, .inl (cI, 1102, .inl (fun _ => 0))), (q_m_kind, .inl (cI, 1102, .inl (fun _ => 0))), (q_m_time, .inl (cI, 1102, .inl (fun _ => 0))), (q_m_nameAt, .inl (cI, 1102, .inl (fun _ => 0))), (q_m_nameSize, .inl (cI, 1102, .inl (fun _ => 0)))] := hD
  refine va_putF (D := D9) (ty := .array (.int)) (ci := 7) (C := R_Mo) (T := F_Mo) (N := 30) hx hb hts i_Mo t_Mo t_Mo_ok n_Mo hown hK hP hD hS 0 rfl rfl 13 (by decide) (hts _ g_735) (fun _ h9 => h9) rfl hin rfl (by decide +kernel) rfl rfl (Nat.le_of_ble_eq_true rfl) d_Mo_init_71 (fun H locs hP hD hS => ?_)
  have hP : va_P D9 cls9 [(b, .inr (7, [.int 0, .ref q_m_tape, .int 0, .ref q_m_store, .int 0, .int 0, .int 0, .int 0, .ref q_m_section, .ref q_m_type, .ref q_m_kind, .ref q_m_time, .ref q_m_nameAt, .ref q_m_nameSize, .null, .null, .int 0, .int 0, .int 0, .int 0, .int 0, .int 0, .int 0, .null, .int 0, .int 0, .null, .null, .int 0, .null])), (q_m_tape, .inl (cB, 65536, .inl (fun _ => 0))), (q_m_store, .inl (cB, 140000, .inl (fun _ => 0))), (q_m_section, .inl (cI, 1102, .inl (fun _ => 0))), (q_m_type, .inl (cI, 1102, .inl (fun _ => 0))), (q_m_kind, .inl (cI, 1102, .inl (fun _ => 0))), (q_m_time, .inl (cI, 1102, .inl (fun _ => 0))), (q_m_nameAt, .inl (cI, 1102, .inl (fun _ => 0))), (q_m_nameSize, .inl (cI, 1102, .inl (fun _ => 0)))] H := hP
  have hD : va_D _ [(b, .inr (7, [.int 0, .ref q_m_tape, .int 0, .ref q_m_store, .int 0, .int 0, .int 0, .int 0, .ref q_m_section, .ref q_m_type, .ref q_m_kind, .ref q_m_time, .ref q_m_nameAt, .ref q_m_nameSize, .null, .null, .int 0, .int 0, .int 0, .int 0, .int 0, .int 0, .int 0, .null, .int 0, .int 0, .null, .null, .int 0, .null])), (q_m_tape, .inl (cB, 65536, .inl (fun _ => 0))), (q_m_store, .inl (cB, 140000, .inl (fun _ => 0))), (q_m_section, .inl (cI, 1102, .inl (fun _ => 0))), (q_m_type, .inl (cI, 1102, .inl (fun _ => 0))), (q_m_kind, .inl (cI, 1102, .inl (fun _ => 0))), (q_m_time, .inl (cI, 1102, .inl (fun _ => 0))), (q_m_nameAt, .inl (cI, 1102, .inl (fun _ => 0))), (q_m_nameSize, .inl (cI, 1102, .inl (fun _ => 0)))] := hD
  refine lv_aload_n hx hb d_Mo_init_74 rfl (lv_at hl 0 rfl) ?_
  refine lv_sipush (v := 1102) hx hb d_Mo_init_75 (by decide) ?_
  refine mw_newa (D := D9) (atype := .int) (a0 := (1102, .inl (fun _ => 0))) (t := 1) (ty := .int) hx hb (hts _ g_113) rfl (fun _ h => h) hK rfl hP hD hS hA (fun _ => rfl) (by decide) (by decide) (by decide) (by decide) (by decide) d_Mo_init_78 (fun q_m_dataAt H hP hD hS => ?_)
  have hP : va_P D9 cls9 [(b, .inr (7, [.int 0, .ref q_m_tape, .int 0, .ref q_m_store, .int 0, .int 0, .int 0, .int 0, .ref q_m_section, .ref q_m_type, .ref q_m_kind, .ref q_m_time, .ref q_m_nameAt, .ref q_m_nameSize, .null, .null, .int 0, .int 0, .int 0, .int 0, .int 0, .int 0, .int 0, .null, .int 0, .int 0, .null, .null, .int 0, .null])), (q_m_tape, .inl (cB, 65536, .inl (fun _ => 0))), (q_m_store, .inl (cB, 140000, .inl (fun _ => 0))), (q_m_section, .inl (cI, 1102, .inl (fun _ => 0))), (q_m_type, .inl (cI, 1102, .inl (fun _ => 0))), (q_m_kind, .inl (cI, 1102, .inl (fun _ => 0))), (q_m_time, .inl (cI, 1102, .inl (fun _ => 0))), (q_m_nameAt, .inl (cI, 1102, .inl (fun _ => 0))), (q_m_nameSize, .inl (cI, 1102, .inl (fun _ => 0))), (q_m_dataAt, .inl (cI, 1102, .inl (fun _ => 0)))] H := hP
  have hD : va_D _ [(b, .inr (7, [.int 0, .ref q_m_tape, .int 0, .ref q_m_store, .int 0, .int 0, .int 0, .int 0, .ref q_m_section, .ref q_m_type, .ref q_m_kind, .ref q_m_time, .ref q_m_nameAt, .ref q_m_nameSize, .null, .null, .int 0, .int 0, .int 0, .int 0, .int 0, .int 0, .int 0, .null, .int 0, .int 0, .null, .null, .int 0, .null])), (q_m_tape, .inl (cB, 65536, .inl (fun _ => 0))), (q_m_store, .inl (cB, 140000, .inl (fun _ => 0))), (q_m_section, .inl (cI, 1102, .inl (fun _ => 0))), (q_m_type, .inl (cI, 1102, .inl (fun _ => 0))), (q_m_kind, .inl (cI, 1102, .inl (fun _ => 0))), (q_m_time, .inl (cI, 1102, .inl (fun _ => 0))), (q_m_nameAt, .inl (cI, 1102, .inl (fun _ => 0))), (q_m_nameSize, .inl (cI, 1102, .inl (fun _ => 0))), (q_m_dataAt, .inl (cI, 1102, .inl (fun _ => 0)))] := hD
  refine va_putF (D := D9) (ty := .array (.int)) (ci := 7) (C := R_Mo) (T := F_Mo) (N := 30) hx hb hts i_Mo t_Mo t_Mo_ok n_Mo hown hK hP hD hS 0 rfl rfl 14 (by decide) (hts _ g_736) (fun _ h9 => h9) rfl hin rfl (by decide +kernel) rfl rfl (Nat.le_of_ble_eq_true rfl) d_Mo_init_80 (fun H locs hP hD hS => ?_)
  have hP : va_P D9 cls9 [(b, .inr (7, [.int 0, .ref q_m_tape, .int 0, .ref q_m_store, .int 0, .int 0, .int 0, .int 0, .ref q_m_section, .ref q_m_type, .ref q_m_kind, .ref q_m_time, .ref q_m_nameAt, .ref q_m_nameSize, .ref q_m_dataAt, .null, .int 0, .int 0, .int 0, .int 0, .int 0, .int 0, .int 0, .null, .int 0, .int 0, .null, .null, .int 0, .null])), (q_m_tape, .inl (cB, 65536, .inl (fun _ => 0))), (q_m_store, .inl (cB, 140000, .inl (fun _ => 0))), (q_m_section, .inl (cI, 1102, .inl (fun _ => 0))), (q_m_type, .inl (cI, 1102, .inl (fun _ => 0))), (q_m_kind, .inl (cI, 1102, .inl (fun _ => 0))), (q_m_time, .inl (cI, 1102, .inl (fun _ => 0))), (q_m_nameAt, .inl (cI, 1102, .inl (fun _ => 0))), (q_m_nameSize, .inl (cI, 1102, .inl (fun _ => 0))), (q_m_dataAt, .inl (cI, 1102, .inl (fun _ => 0)))] H := hP
  have hD : va_D _ [(b, .inr (7, [.int 0, .ref q_m_tape, .int 0, .ref q_m_store, .int 0, .int 0, .int 0, .int 0, .ref q_m_section, .ref q_m_type, .ref q_m_kind, .ref q_m_time, .ref q_m_nameAt, .ref q_m_nameSize, .ref q_m_dataAt, .null, .int 0, .int 0, .int 0, .int 0, .int 0, .int 0, .int 0, .null, .int 0, .int 0, .null, .null, .int 0, .null])), (q_m_tape, .inl (cB, 65536, .inl (fun _ => 0))), (q_m_store, .inl (cB, 140000, .inl (fun _ => 0))), (q_m_section, .inl (cI, 1102, .inl (fun _ => 0))), (q_m_type, .inl (cI, 1102, .inl (fun _ => 0))), (q_m_kind, .inl (cI, 1102, .inl (fun _ => 0))), (q_m_time, .inl (cI, 1102, .inl (fun _ => 0))), (q_m_nameAt, .inl (cI, 1102, .inl (fun _ => 0))), (q_m_nameSize, .inl (cI, 1102, .inl (fun _ => 0))), (q_m_dataAt, .inl (cI, 1102, .inl (fun _ => 0)))] := hD
  refine lv_aload_n hx hb d_Mo_init_83 rfl (lv_at hl 0 rfl) ?_
  refine lv_sipush (v := 1102) hx hb d_Mo_init_84 (by decide) ?_
  refine mw_newa (D := D9) (atype := .int) (a0 := (1102, .inl (fun _ => 0))) (t := 1) (ty := .int) hx hb (hts _ g_113) rfl (fun _ h => h) hK rfl hP hD hS hA (fun _ => rfl) (by decide) (by decide) (by decide) (by decide) (by decide) d_Mo_init_87 (fun q_m_dataSize H hP hD hS => ?_)
  have hP : va_P D9 cls9 [(b, .inr (7, [.int 0, .ref q_m_tape, .int 0, .ref q_m_store, .int 0, .int 0, .int 0, .int 0, .ref q_m_section, .ref q_m_type, .ref q_m_kind, .ref q_m_time, .ref q_m_nameAt, .ref q_m_nameSize, .ref q_m_dataAt, .null, .int 0, .int 0, .int 0, .int 0, .int 0, .int 0, .int 0, .null, .int 0, .int 0, .null, .null, .int 0, .null])), (q_m_tape, .inl (cB, 65536, .inl (fun _ => 0))), (q_m_store, .inl (cB, 140000, .inl (fun _ => 0))), (q_m_section, .inl (cI, 1102, .inl (fun _ => 0))), (q_m_type, .inl (cI, 1102, .inl (fun _ => 0))), (q_m_kind, .inl (cI, 1102, .inl (fun _ => 0))), (q_m_time, .inl (cI, 1102, .inl (fun _ => 0))), (q_m_nameAt, .inl (cI, 1102, .inl (fun _ => 0))), (q_m_nameSize, .inl (cI, 1102, .inl (fun _ => 0))), (q_m_dataAt, .inl (cI, 1102, .inl (fun _ => 0))), (q_m_dataSize, .inl (cI, 1102, .inl (fun _ => 0)))] H := hP
  have hD : va_D _ [(b, .inr (7, [.int 0, .ref q_m_tape, .int 0, .ref q_m_store, .int 0, .int 0, .int 0, .int 0, .ref q_m_section, .ref q_m_type, .ref q_m_kind, .ref q_m_time, .ref q_m_nameAt, .ref q_m_nameSize, .ref q_m_dataAt, .null, .int 0, .int 0, .int 0, .int 0, .int 0, .int 0, .int 0, .null, .int 0, .int 0, .null, .null, .int 0, .null])), (q_m_tape, .inl (cB, 65536, .inl (fun _ => 0))), (q_m_store, .inl (cB, 140000, .inl (fun _ => 0))), (q_m_section, .inl (cI, 1102, .inl (fun _ => 0))), (q_m_type, .inl (cI, 1102, .inl (fun _ => 0))), (q_m_kind, .inl (cI, 1102, .inl (fun _ => 0))), (q_m_time, .inl (cI, 1102, .inl (fun _ => 0))), (q_m_nameAt, .inl (cI, 1102, .inl (fun _ => 0))), (q_m_nameSize, .inl (cI, 1102, .inl (fun _ => 0))), (q_m_dataAt, .inl (cI, 1102, .inl (fun _ => 0))), (q_m_dataSize, .inl (cI, 1102, .inl (fun _ => 0)))] := hD
  refine va_putF (D := D9) (ty := .array (.int)) (ci := 7) (C := R_Mo) (T := F_Mo) (N := 30) hx hb hts i_Mo t_Mo t_Mo_ok n_Mo hown hK hP hD hS 0 rfl rfl 15 (by decide) (hts _ g_737) (fun _ h9 => h9) rfl hin rfl (by decide +kernel) rfl rfl (Nat.le_of_ble_eq_true rfl) d_Mo_init_89 (fun H locs hP hD hS => ?_)
  have hP : va_P D9 cls9 [(b, .inr (7, [.int 0, .ref q_m_tape, .int 0, .ref q_m_store, .int 0, .int 0, .int 0, .int 0, .ref q_m_section, .ref q_m_type, .ref q_m_kind, .ref q_m_time, .ref q_m_nameAt, .ref q_m_nameSize, .ref q_m_dataAt, .ref q_m_dataSize, .int 0, .int 0, .int 0, .int 0, .int 0, .int 0, .int 0, .null, .int 0, .int 0, .null, .null, .int 0, .null])), (q_m_tape, .inl (cB, 65536, .inl (fun _ => 0))), (q_m_store, .inl (cB, 140000, .inl (fun _ => 0))), (q_m_section, .inl (cI, 1102, .inl (fun _ => 0))), (q_m_type, .inl (cI, 1102, .inl (fun _ => 0))), (q_m_kind, .inl (cI, 1102, .inl (fun _ => 0))), (q_m_time, .inl (cI, 1102, .inl (fun _ => 0))), (q_m_nameAt, .inl (cI, 1102, .inl (fun _ => 0))), (q_m_nameSize, .inl (cI, 1102, .inl (fun _ => 0))), (q_m_dataAt, .inl (cI, 1102, .inl (fun _ => 0))), (q_m_dataSize, .inl (cI, 1102, .inl (fun _ => 0)))] H := hP
  have hD : va_D _ [(b, .inr (7, [.int 0, .ref q_m_tape, .int 0, .ref q_m_store, .int 0, .int 0, .int 0, .int 0, .ref q_m_section, .ref q_m_type, .ref q_m_kind, .ref q_m_time, .ref q_m_nameAt, .ref q_m_nameSize, .ref q_m_dataAt, .ref q_m_dataSize, .int 0, .int 0, .int 0, .int 0, .int 0, .int 0, .int 0, .null, .int 0, .int 0, .null, .null, .int 0, .null])), (q_m_tape, .inl (cB, 65536, .inl (fun _ => 0))), (q_m_store, .inl (cB, 140000, .inl (fun _ => 0))), (q_m_section, .inl (cI, 1102, .inl (fun _ => 0))), (q_m_type, .inl (cI, 1102, .inl (fun _ => 0))), (q_m_kind, .inl (cI, 1102, .inl (fun _ => 0))), (q_m_time, .inl (cI, 1102, .inl (fun _ => 0))), (q_m_nameAt, .inl (cI, 1102, .inl (fun _ => 0))), (q_m_nameSize, .inl (cI, 1102, .inl (fun _ => 0))), (q_m_dataAt, .inl (cI, 1102, .inl (fun _ => 0))), (q_m_dataSize, .inl (cI, 1102, .inl (fun _ => 0)))] := hD
  refine lv_aload_n hx hb d_Mo_init_92 rfl (lv_at hl 0 rfl) ?_
  refine lv_iconst (v := -1) hx hb d_Mo_init_93 (by decide) ?_
  refine va_put (D := D9) (ty := .int) (ci := 7) (C := R_Mo) (T := F_Mo) (N := 30) hx hb hts i_Mo t_Mo t_Mo_ok n_Mo hown hK hP hD hS 0 rfl rfl 16 (by decide) (hts _ g_738) (fun _ h9 => h9) rfl (by decide +kernel) rfl rfl (Nat.le_of_ble_eq_true rfl) d_Mo_init_94 (fun H locs hP hD hS => ?_)
  have hP : va_P D9 cls9 [(b, .inr (7, [.int 0, .ref q_m_tape, .int 0, .ref q_m_store, .int 0, .int 0, .int 0, .int 0, .ref q_m_section, .ref q_m_type, .ref q_m_kind, .ref q_m_time, .ref q_m_nameAt, .ref q_m_nameSize, .ref q_m_dataAt, .ref q_m_dataSize, .int (-1), .int 0, .int 0, .int 0, .int 0, .int 0, .int 0, .null, .int 0, .int 0, .null, .null, .int 0, .null])), (q_m_tape, .inl (cB, 65536, .inl (fun _ => 0))), (q_m_store, .inl (cB, 140000, .inl (fun _ => 0))), (q_m_section, .inl (cI, 1102, .inl (fun _ => 0))), (q_m_type, .inl (cI, 1102, .inl (fun _ => 0))), (q_m_kind, .inl (cI, 1102, .inl (fun _ => 0))), (q_m_time, .inl (cI, 1102, .inl (fun _ => 0))), (q_m_nameAt, .inl (cI, 1102, .inl (fun _ => 0))), (q_m_nameSize, .inl (cI, 1102, .inl (fun _ => 0))), (q_m_dataAt, .inl (cI, 1102, .inl (fun _ => 0))), (q_m_dataSize, .inl (cI, 1102, .inl (fun _ => 0)))] H := hP
  have hD : va_D _ [(b, .inr (7, [.int 0, .ref q_m_tape, .int 0, .ref q_m_store, .int 0, .int 0, .int 0, .int 0, .ref q_m_section, .ref q_m_type, .ref q_m_kind, .ref q_m_time, .ref q_m_nameAt, .ref q_m_nameSize, .ref q_m_dataAt, .ref q_m_dataSize, .int (-1), .int 0, .int 0, .int 0, .int 0, .int 0, .int 0, .null, .int 0, .int 0, .null, .null, .int 0, .null])), (q_m_tape, .inl (cB, 65536, .inl (fun _ => 0))), (q_m_store, .inl (cB, 140000, .inl (fun _ => 0))), (q_m_section, .inl (cI, 1102, .inl (fun _ => 0))), (q_m_type, .inl (cI, 1102, .inl (fun _ => 0))), (q_m_kind, .inl (cI, 1102, .inl (fun _ => 0))), (q_m_time, .inl (cI, 1102, .inl (fun _ => 0))), (q_m_nameAt, .inl (cI, 1102, .inl (fun _ => 0))), (q_m_nameSize, .inl (cI, 1102, .inl (fun _ => 0))), (q_m_dataAt, .inl (cI, 1102, .inl (fun _ => 0))), (q_m_dataSize, .inl (cI, 1102, .inl (fun _ => 0)))] := hD
  refine lv_aload_n hx hb d_Mo_init_97 rfl (lv_at hl 0 rfl) ?_
  refine lv_ldc hx hb hown (hts _ g_720) d_Mo_init_98 ?_
  refine mw_newa (D := D9) (atype := .byte) (a0 := (131200, .inl (fun _ => 0))) (t := 0) (ty := .byte) hx hb (hts _ g_46) rfl (fun _ h => h) hK rfl hP hD hS hA (fun _ => rfl) (by decide) (by decide) (by decide) (by decide) (by decide) d_Mo_init_100 (fun q_m_message H hP hD hS => ?_)
  have hP : va_P D9 cls9 [(b, .inr (7, [.int 0, .ref q_m_tape, .int 0, .ref q_m_store, .int 0, .int 0, .int 0, .int 0, .ref q_m_section, .ref q_m_type, .ref q_m_kind, .ref q_m_time, .ref q_m_nameAt, .ref q_m_nameSize, .ref q_m_dataAt, .ref q_m_dataSize, .int (-1), .int 0, .int 0, .int 0, .int 0, .int 0, .int 0, .null, .int 0, .int 0, .null, .null, .int 0, .null])), (q_m_tape, .inl (cB, 65536, .inl (fun _ => 0))), (q_m_store, .inl (cB, 140000, .inl (fun _ => 0))), (q_m_section, .inl (cI, 1102, .inl (fun _ => 0))), (q_m_type, .inl (cI, 1102, .inl (fun _ => 0))), (q_m_kind, .inl (cI, 1102, .inl (fun _ => 0))), (q_m_time, .inl (cI, 1102, .inl (fun _ => 0))), (q_m_nameAt, .inl (cI, 1102, .inl (fun _ => 0))), (q_m_nameSize, .inl (cI, 1102, .inl (fun _ => 0))), (q_m_dataAt, .inl (cI, 1102, .inl (fun _ => 0))), (q_m_dataSize, .inl (cI, 1102, .inl (fun _ => 0))), (q_m_message, .inl (cB, 131200, .inl (fun _ => 0)))] H := hP
  have hD : va_D _ [(b, .inr (7, [.int 0, .ref q_m_tape, .int 0, .ref q_m_store, .int 0, .int 0, .int 0, .int 0, .ref q_m_section, .ref q_m_type, .ref q_m_kind, .ref q_m_time, .ref q_m_nameAt, .ref q_m_nameSize, .ref q_m_dataAt, .ref q_m_dataSize, .int (-1), .int 0, .int 0, .int 0, .int 0, .int 0, .int 0, .null, .int 0, .int 0, .null, .null, .int 0, .null])), (q_m_tape, .inl (cB, 65536, .inl (fun _ => 0))), (q_m_store, .inl (cB, 140000, .inl (fun _ => 0))), (q_m_section, .inl (cI, 1102, .inl (fun _ => 0))), (q_m_type, .inl (cI, 1102, .inl (fun _ => 0))), (q_m_kind, .inl (cI, 1102, .inl (fun _ => 0))), (q_m_time, .inl (cI, 1102, .inl (fun _ => 0))), (q_m_nameAt, .inl (cI, 1102, .inl (fun _ => 0))), (q_m_nameSize, .inl (cI, 1102, .inl (fun _ => 0))), (q_m_dataAt, .inl (cI, 1102, .inl (fun _ => 0))), (q_m_dataSize, .inl (cI, 1102, .inl (fun _ => 0))), (q_m_message, .inl (cB, 131200, .inl (fun _ => 0)))] := hD
  refine va_putF (D := D9) (ty := .array (.byte)) (ci := 7) (C := R_Mo) (T := F_Mo) (N := 30) hx hb hts i_Mo t_Mo t_Mo_ok n_Mo hown hK hP hD hS 0 rfl rfl 23 (by decide) (hts _ g_745) (fun _ h9 => h9) rfl hin rfl (by decide +kernel) rfl rfl (Nat.le_of_ble_eq_true rfl) d_Mo_init_102 (fun H locs hP hD hS => ?_)
  have hP : va_P D9 cls9 [(b, .inr (7, [.int 0, .ref q_m_tape, .int 0, .ref q_m_store, .int 0, .int 0, .int 0, .int 0, .ref q_m_section, .ref q_m_type, .ref q_m_kind, .ref q_m_time, .ref q_m_nameAt, .ref q_m_nameSize, .ref q_m_dataAt, .ref q_m_dataSize, .int (-1), .int 0, .int 0, .int 0, .int 0, .int 0, .int 0, .ref q_m_message, .int 0, .int 0, .null, .null, .int 0, .null])), (q_m_tape, .inl (cB, 65536, .inl (fun _ => 0))), (q_m_store, .inl (cB, 140000, .inl (fun _ => 0))), (q_m_section, .inl (cI, 1102, .inl (fun _ => 0))), (q_m_type, .inl (cI, 1102, .inl (fun _ => 0))), (q_m_kind, .inl (cI, 1102, .inl (fun _ => 0))), (q_m_time, .inl (cI, 1102, .inl (fun _ => 0))), (q_m_nameAt, .inl (cI, 1102, .inl (fun _ => 0))), (q_m_nameSize, .inl (cI, 1102, .inl (fun _ => 0))), (q_m_dataAt, .inl (cI, 1102, .inl (fun _ => 0))), (q_m_dataSize, .inl (cI, 1102, .inl (fun _ => 0))), (q_m_message, .inl (cB, 131200, .inl (fun _ => 0)))] H := hP
  have hD : va_D _ [(b, .inr (7, [.int 0, .ref q_m_tape, .int 0, .ref q_m_store, .int 0, .int 0, .int 0, .int 0, .ref q_m_section, .ref q_m_type, .ref q_m_kind, .ref q_m_time, .ref q_m_nameAt, .ref q_m_nameSize, .ref q_m_dataAt, .ref q_m_dataSize, .int (-1), .int 0, .int 0, .int 0, .int 0, .int 0, .int 0, .ref q_m_message, .int 0, .int 0, .null, .null, .int 0, .null])), (q_m_tape, .inl (cB, 65536, .inl (fun _ => 0))), (q_m_store, .inl (cB, 140000, .inl (fun _ => 0))), (q_m_section, .inl (cI, 1102, .inl (fun _ => 0))), (q_m_type, .inl (cI, 1102, .inl (fun _ => 0))), (q_m_kind, .inl (cI, 1102, .inl (fun _ => 0))), (q_m_time, .inl (cI, 1102, .inl (fun _ => 0))), (q_m_nameAt, .inl (cI, 1102, .inl (fun _ => 0))), (q_m_nameSize, .inl (cI, 1102, .inl (fun _ => 0))), (q_m_dataAt, .inl (cI, 1102, .inl (fun _ => 0))), (q_m_dataSize, .inl (cI, 1102, .inl (fun _ => 0))), (q_m_message, .inl (cB, 131200, .inl (fun _ => 0)))] := hD
  refine lv_aload_n hx hb d_Mo_init_105 rfl (lv_at hl 0 rfl) ?_
  refine lv_ldc hx hb hown (hts _ g_721) d_Mo_init_106 ?_
  refine mw_newa (D := D9) (atype := .int) (a0 := (40000, .inl (fun _ => 0))) (t := 1) (ty := .int) hx hb (hts _ g_113) rfl (fun _ h => h) hK rfl hP hD hS hA (fun _ => rfl) (by decide) (by decide) (by decide) (by decide) (by decide) d_Mo_init_108 (fun q_m_endPlace H hP hD hS => ?_)
  have hP : va_P D9 cls9 [(b, .inr (7, [.int 0, .ref q_m_tape, .int 0, .ref q_m_store, .int 0, .int 0, .int 0, .int 0, .ref q_m_section, .ref q_m_type, .ref q_m_kind, .ref q_m_time, .ref q_m_nameAt, .ref q_m_nameSize, .ref q_m_dataAt, .ref q_m_dataSize, .int (-1), .int 0, .int 0, .int 0, .int 0, .int 0, .int 0, .ref q_m_message, .int 0, .int 0, .null, .null, .int 0, .null])), (q_m_tape, .inl (cB, 65536, .inl (fun _ => 0))), (q_m_store, .inl (cB, 140000, .inl (fun _ => 0))), (q_m_section, .inl (cI, 1102, .inl (fun _ => 0))), (q_m_type, .inl (cI, 1102, .inl (fun _ => 0))), (q_m_kind, .inl (cI, 1102, .inl (fun _ => 0))), (q_m_time, .inl (cI, 1102, .inl (fun _ => 0))), (q_m_nameAt, .inl (cI, 1102, .inl (fun _ => 0))), (q_m_nameSize, .inl (cI, 1102, .inl (fun _ => 0))), (q_m_dataAt, .inl (cI, 1102, .inl (fun _ => 0))), (q_m_dataSize, .inl (cI, 1102, .inl (fun _ => 0))), (q_m_message, .inl (cB, 131200, .inl (fun _ => 0))), (q_m_endPlace, .inl (cI, 40000, .inl (fun _ => 0)))] H := hP
  have hD : va_D _ [(b, .inr (7, [.int 0, .ref q_m_tape, .int 0, .ref q_m_store, .int 0, .int 0, .int 0, .int 0, .ref q_m_section, .ref q_m_type, .ref q_m_kind, .ref q_m_time, .ref q_m_nameAt, .ref q_m_nameSize, .ref q_m_dataAt, .ref q_m_dataSize, .int (-1), .int 0, .int 0, .int 0, .int 0, .int 0, .int 0, .ref q_m_message, .int 0, .int 0, .null, .null, .int 0, .null])), (q_m_tape, .inl (cB, 65536, .inl (fun _ => 0))), (q_m_store, .inl (cB, 140000, .inl (fun _ => 0))), (q_m_section, .inl (cI, 1102, .inl (fun _ => 0))), (q_m_type, .inl (cI, 1102, .inl (fun _ => 0))), (q_m_kind, .inl (cI, 1102, .inl (fun _ => 0))), (q_m_time, .inl (cI, 1102, .inl (fun _ => 0))), (q_m_nameAt, .inl (cI, 1102, .inl (fun _ => 0))), (q_m_nameSize, .inl (cI, 1102, .inl (fun _ => 0))), (q_m_dataAt, .inl (cI, 1102, .inl (fun _ => 0))), (q_m_dataSize, .inl (cI, 1102, .inl (fun _ => 0))), (q_m_message, .inl (cB, 131200, .inl (fun _ => 0))), (q_m_endPlace, .inl (cI, 40000, .inl (fun _ => 0)))] := hD
  refine va_putF (D := D9) (ty := .array (.int)) (ci := 7) (C := R_Mo) (T := F_Mo) (N := 30) hx hb hts i_Mo t_Mo t_Mo_ok n_Mo hown hK hP hD hS 0 rfl rfl 26 (by decide) (hts _ g_748) (fun _ h9 => h9) rfl hin rfl (by decide +kernel) rfl rfl (Nat.le_of_ble_eq_true rfl) d_Mo_init_110 (fun H locs hP hD hS => ?_)
  have hP : va_P D9 cls9 [(b, .inr (7, [.int 0, .ref q_m_tape, .int 0, .ref q_m_store, .int 0, .int 0, .int 0, .int 0, .ref q_m_section, .ref q_m_type, .ref q_m_kind, .ref q_m_time, .ref q_m_nameAt, .ref q_m_nameSize, .ref q_m_dataAt, .ref q_m_dataSize, .int (-1), .int 0, .int 0, .int 0, .int 0, .int 0, .int 0, .ref q_m_message, .int 0, .int 0, .ref q_m_endPlace, .null, .int 0, .null])), (q_m_tape, .inl (cB, 65536, .inl (fun _ => 0))), (q_m_store, .inl (cB, 140000, .inl (fun _ => 0))), (q_m_section, .inl (cI, 1102, .inl (fun _ => 0))), (q_m_type, .inl (cI, 1102, .inl (fun _ => 0))), (q_m_kind, .inl (cI, 1102, .inl (fun _ => 0))), (q_m_time, .inl (cI, 1102, .inl (fun _ => 0))), (q_m_nameAt, .inl (cI, 1102, .inl (fun _ => 0))), (q_m_nameSize, .inl (cI, 1102, .inl (fun _ => 0))), (q_m_dataAt, .inl (cI, 1102, .inl (fun _ => 0))), (q_m_dataSize, .inl (cI, 1102, .inl (fun _ => 0))), (q_m_message, .inl (cB, 131200, .inl (fun _ => 0))), (q_m_endPlace, .inl (cI, 40000, .inl (fun _ => 0)))] H := hP
  have hD : va_D _ [(b, .inr (7, [.int 0, .ref q_m_tape, .int 0, .ref q_m_store, .int 0, .int 0, .int 0, .int 0, .ref q_m_section, .ref q_m_type, .ref q_m_kind, .ref q_m_time, .ref q_m_nameAt, .ref q_m_nameSize, .ref q_m_dataAt, .ref q_m_dataSize, .int (-1), .int 0, .int 0, .int 0, .int 0, .int 0, .int 0, .ref q_m_message, .int 0, .int 0, .ref q_m_endPlace, .null, .int 0, .null])), (q_m_tape, .inl (cB, 65536, .inl (fun _ => 0))), (q_m_store, .inl (cB, 140000, .inl (fun _ => 0))), (q_m_section, .inl (cI, 1102, .inl (fun _ => 0))), (q_m_type, .inl (cI, 1102, .inl (fun _ => 0))), (q_m_kind, .inl (cI, 1102, .inl (fun _ => 0))), (q_m_time, .inl (cI, 1102, .inl (fun _ => 0))), (q_m_nameAt, .inl (cI, 1102, .inl (fun _ => 0))), (q_m_nameSize, .inl (cI, 1102, .inl (fun _ => 0))), (q_m_dataAt, .inl (cI, 1102, .inl (fun _ => 0))), (q_m_dataSize, .inl (cI, 1102, .inl (fun _ => 0))), (q_m_message, .inl (cB, 131200, .inl (fun _ => 0))), (q_m_endPlace, .inl (cI, 40000, .inl (fun _ => 0)))] := hD
  refine lv_aload_n hx hb d_Mo_init_113 rfl (lv_at hl 0 rfl) ?_
  refine lv_ldc hx hb hown (hts _ g_721) d_Mo_init_114 ?_
  refine mw_newa (D := D9) (atype := .int) (a0 := (40000, .inl (fun _ => 0))) (t := 1) (ty := .int) hx hb (hts _ g_113) rfl (fun _ h => h) hK rfl hP hD hS hA (fun _ => rfl) (by decide) (by decide) (by decide) (by decide) (by decide) d_Mo_init_116 (fun q_m_endAt H hP hD hS => ?_)
  have hP : va_P D9 cls9 [(b, .inr (7, [.int 0, .ref q_m_tape, .int 0, .ref q_m_store, .int 0, .int 0, .int 0, .int 0, .ref q_m_section, .ref q_m_type, .ref q_m_kind, .ref q_m_time, .ref q_m_nameAt, .ref q_m_nameSize, .ref q_m_dataAt, .ref q_m_dataSize, .int (-1), .int 0, .int 0, .int 0, .int 0, .int 0, .int 0, .ref q_m_message, .int 0, .int 0, .ref q_m_endPlace, .null, .int 0, .null])), (q_m_tape, .inl (cB, 65536, .inl (fun _ => 0))), (q_m_store, .inl (cB, 140000, .inl (fun _ => 0))), (q_m_section, .inl (cI, 1102, .inl (fun _ => 0))), (q_m_type, .inl (cI, 1102, .inl (fun _ => 0))), (q_m_kind, .inl (cI, 1102, .inl (fun _ => 0))), (q_m_time, .inl (cI, 1102, .inl (fun _ => 0))), (q_m_nameAt, .inl (cI, 1102, .inl (fun _ => 0))), (q_m_nameSize, .inl (cI, 1102, .inl (fun _ => 0))), (q_m_dataAt, .inl (cI, 1102, .inl (fun _ => 0))), (q_m_dataSize, .inl (cI, 1102, .inl (fun _ => 0))), (q_m_message, .inl (cB, 131200, .inl (fun _ => 0))), (q_m_endPlace, .inl (cI, 40000, .inl (fun _ => 0))), (q_m_endAt, .inl (cI, 40000, .inl (fun _ => 0)))] H := hP
  have hD : va_D _ [(b, .inr (7, [.int 0, .ref q_m_tape, .int 0, .ref q_m_store, .int 0, .int 0, .int 0, .int 0, .ref q_m_section, .ref q_m_type, .ref q_m_kind, .ref q_m_time, .ref q_m_nameAt, .ref q_m_nameSize, .ref q_m_dataAt, .ref q_m_dataSize, .int (-1), .int 0, .int 0, .int 0, .int 0, .int 0, .int 0, .ref q_m_message, .int 0, .int 0, .ref q_m_endPlace, .null, .int 0, .null])), (q_m_tape, .inl (cB, 65536, .inl (fun _ => 0))), (q_m_store, .inl (cB, 140000, .inl (fun _ => 0))), (q_m_section, .inl (cI, 1102, .inl (fun _ => 0))), (q_m_type, .inl (cI, 1102, .inl (fun _ => 0))), (q_m_kind, .inl (cI, 1102, .inl (fun _ => 0))), (q_m_time, .inl (cI, 1102, .inl (fun _ => 0))), (q_m_nameAt, .inl (cI, 1102, .inl (fun _ => 0))), (q_m_nameSize, .inl (cI, 1102, .inl (fun _ => 0))), (q_m_dataAt, .inl (cI, 1102, .inl (fun _ => 0))), (q_m_dataSize, .inl (cI, 1102, .inl (fun _ => 0))), (q_m_message, .inl (cB, 131200, .inl (fun _ => 0))), (q_m_endPlace, .inl (cI, 40000, .inl (fun _ => 0))), (q_m_endAt, .inl (cI, 40000, .inl (fun _ => 0)))] := hD
  refine va_putF (D := D9) (ty := .array (.int)) (ci := 7) (C := R_Mo) (T := F_Mo) (N := 30) hx hb hts i_Mo t_Mo t_Mo_ok n_Mo hown hK hP hD hS 0 rfl rfl 27 (by decide) (hts _ g_749) (fun _ h9 => h9) rfl hin rfl (by decide +kernel) rfl rfl (Nat.le_of_ble_eq_true rfl) d_Mo_init_118 (fun H locs hP hD hS => ?_)
  have hP : va_P D9 cls9 [(b, .inr (7, [.int 0, .ref q_m_tape, .int 0, .ref q_m_store, .int 0, .int 0, .int 0, .int 0, .ref q_m_section, .ref q_m_type, .ref q_m_kind, .ref q_m_time, .ref q_m_nameAt, .ref q_m_nameSize, .ref q_m_dataAt, .ref q_m_dataSize, .int (-1), .int 0, .int 0, .int 0, .int 0, .int 0, .int 0, .ref q_m_message, .int 0, .int 0, .ref q_m_endPlace, .ref q_m_endAt, .int 0, .null])), (q_m_tape, .inl (cB, 65536, .inl (fun _ => 0))), (q_m_store, .inl (cB, 140000, .inl (fun _ => 0))), (q_m_section, .inl (cI, 1102, .inl (fun _ => 0))), (q_m_type, .inl (cI, 1102, .inl (fun _ => 0))), (q_m_kind, .inl (cI, 1102, .inl (fun _ => 0))), (q_m_time, .inl (cI, 1102, .inl (fun _ => 0))), (q_m_nameAt, .inl (cI, 1102, .inl (fun _ => 0))), (q_m_nameSize, .inl (cI, 1102, .inl (fun _ => 0))), (q_m_dataAt, .inl (cI, 1102, .inl (fun _ => 0))), (q_m_dataSize, .inl (cI, 1102, .inl (fun _ => 0))), (q_m_message, .inl (cB, 131200, .inl (fun _ => 0))), (q_m_endPlace, .inl (cI, 40000, .inl (fun _ => 0))), (q_m_endAt, .inl (cI, 40000, .inl (fun _ => 0)))] H := hP
  have hD : va_D _ [(b, .inr (7, [.int 0, .ref q_m_tape, .int 0, .ref q_m_store, .int 0, .int 0, .int 0, .int 0, .ref q_m_section, .ref q_m_type, .ref q_m_kind, .ref q_m_time, .ref q_m_nameAt, .ref q_m_nameSize, .ref q_m_dataAt, .ref q_m_dataSize, .int (-1), .int 0, .int 0, .int 0, .int 0, .int 0, .int 0, .ref q_m_message, .int 0, .int 0, .ref q_m_endPlace, .ref q_m_endAt, .int 0, .null])), (q_m_tape, .inl (cB, 65536, .inl (fun _ => 0))), (q_m_store, .inl (cB, 140000, .inl (fun _ => 0))), (q_m_section, .inl (cI, 1102, .inl (fun _ => 0))), (q_m_type, .inl (cI, 1102, .inl (fun _ => 0))), (q_m_kind, .inl (cI, 1102, .inl (fun _ => 0))), (q_m_time, .inl (cI, 1102, .inl (fun _ => 0))), (q_m_nameAt, .inl (cI, 1102, .inl (fun _ => 0))), (q_m_nameSize, .inl (cI, 1102, .inl (fun _ => 0))), (q_m_dataAt, .inl (cI, 1102, .inl (fun _ => 0))), (q_m_dataSize, .inl (cI, 1102, .inl (fun _ => 0))), (q_m_message, .inl (cB, 131200, .inl (fun _ => 0))), (q_m_endPlace, .inl (cI, 40000, .inl (fun _ => 0))), (q_m_endAt, .inl (cI, 40000, .inl (fun _ => 0)))] := hD
  refine lv_aload_n hx hb d_Mo_init_121 rfl (lv_at hl 0 rfl) ?_
  refine lv_iconst (v := 4) hx hb d_Mo_init_122 (by decide) ?_
  refine mw_newa (D := D9) (atype := .int) (a0 := (4, .inl (fun _ => 0))) (t := 1) (ty := .int) hx hb (hts _ g_113) rfl (fun _ h => h) hK rfl hP hD hS hA (fun _ => rfl) (by decide) (by decide) (by decide) (by decide) (by decide) d_Mo_init_123 (fun q_m_countsWritten H hP hD hS => ?_)
  have hP : va_P D9 cls9 [(b, .inr (7, [.int 0, .ref q_m_tape, .int 0, .ref q_m_store, .int 0, .int 0, .int 0, .int 0, .ref q_m_section, .ref q_m_type, .ref q_m_kind, .ref q_m_time, .ref q_m_nameAt, .ref q_m_nameSize, .ref q_m_dataAt, .ref q_m_dataSize, .int (-1), .int 0, .int 0, .int 0, .int 0, .int 0, .int 0, .ref q_m_message, .int 0, .int 0, .ref q_m_endPlace, .ref q_m_endAt, .int 0, .null])), (q_m_tape, .inl (cB, 65536, .inl (fun _ => 0))), (q_m_store, .inl (cB, 140000, .inl (fun _ => 0))), (q_m_section, .inl (cI, 1102, .inl (fun _ => 0))), (q_m_type, .inl (cI, 1102, .inl (fun _ => 0))), (q_m_kind, .inl (cI, 1102, .inl (fun _ => 0))), (q_m_time, .inl (cI, 1102, .inl (fun _ => 0))), (q_m_nameAt, .inl (cI, 1102, .inl (fun _ => 0))), (q_m_nameSize, .inl (cI, 1102, .inl (fun _ => 0))), (q_m_dataAt, .inl (cI, 1102, .inl (fun _ => 0))), (q_m_dataSize, .inl (cI, 1102, .inl (fun _ => 0))), (q_m_message, .inl (cB, 131200, .inl (fun _ => 0))), (q_m_endPlace, .inl (cI, 40000, .inl (fun _ => 0))), (q_m_endAt, .inl (cI, 40000, .inl (fun _ => 0))), (q_m_countsWritten, .inl (cI, 4, .inl (fun _ => 0)))] H := hP
  have hD : va_D _ [(b, .inr (7, [.int 0, .ref q_m_tape, .int 0, .ref q_m_store, .int 0, .int 0, .int 0, .int 0, .ref q_m_section, .ref q_m_type, .ref q_m_kind, .ref q_m_time, .ref q_m_nameAt, .ref q_m_nameSize, .ref q_m_dataAt, .ref q_m_dataSize, .int (-1), .int 0, .int 0, .int 0, .int 0, .int 0, .int 0, .ref q_m_message, .int 0, .int 0, .ref q_m_endPlace, .ref q_m_endAt, .int 0, .null])), (q_m_tape, .inl (cB, 65536, .inl (fun _ => 0))), (q_m_store, .inl (cB, 140000, .inl (fun _ => 0))), (q_m_section, .inl (cI, 1102, .inl (fun _ => 0))), (q_m_type, .inl (cI, 1102, .inl (fun _ => 0))), (q_m_kind, .inl (cI, 1102, .inl (fun _ => 0))), (q_m_time, .inl (cI, 1102, .inl (fun _ => 0))), (q_m_nameAt, .inl (cI, 1102, .inl (fun _ => 0))), (q_m_nameSize, .inl (cI, 1102, .inl (fun _ => 0))), (q_m_dataAt, .inl (cI, 1102, .inl (fun _ => 0))), (q_m_dataSize, .inl (cI, 1102, .inl (fun _ => 0))), (q_m_message, .inl (cB, 131200, .inl (fun _ => 0))), (q_m_endPlace, .inl (cI, 40000, .inl (fun _ => 0))), (q_m_endAt, .inl (cI, 40000, .inl (fun _ => 0))), (q_m_countsWritten, .inl (cI, 4, .inl (fun _ => 0)))] := hD
  refine va_putF (D := D9) (ty := .array (.int)) (ci := 7) (C := R_Mo) (T := F_Mo) (N := 30) hx hb hts i_Mo t_Mo t_Mo_ok n_Mo hown hK hP hD hS 0 rfl rfl 29 (by decide) (hts _ g_751) (fun _ h9 => h9) rfl hin rfl (by decide +kernel) rfl rfl (Nat.le_of_ble_eq_true rfl) d_Mo_init_125 (fun H locs hP hD hS => ?_)
  have hP : va_P D9 cls9 [(b, .inr (7, [.int 0, .ref q_m_tape, .int 0, .ref q_m_store, .int 0, .int 0, .int 0, .int 0, .ref q_m_section, .ref q_m_type, .ref q_m_kind, .ref q_m_time, .ref q_m_nameAt, .ref q_m_nameSize, .ref q_m_dataAt, .ref q_m_dataSize, .int (-1), .int 0, .int 0, .int 0, .int 0, .int 0, .int 0, .ref q_m_message, .int 0, .int 0, .ref q_m_endPlace, .ref q_m_endAt, .int 0, .ref q_m_countsWritten])), (q_m_tape, .inl (cB, 65536, .inl (fun _ => 0))), (q_m_store, .inl (cB, 140000, .inl (fun _ => 0))), (q_m_section, .inl (cI, 1102, .inl (fun _ => 0))), (q_m_type, .inl (cI, 1102, .inl (fun _ => 0))), (q_m_kind, .inl (cI, 1102, .inl (fun _ => 0))), (q_m_time, .inl (cI, 1102, .inl (fun _ => 0))), (q_m_nameAt, .inl (cI, 1102, .inl (fun _ => 0))), (q_m_nameSize, .inl (cI, 1102, .inl (fun _ => 0))), (q_m_dataAt, .inl (cI, 1102, .inl (fun _ => 0))), (q_m_dataSize, .inl (cI, 1102, .inl (fun _ => 0))), (q_m_message, .inl (cB, 131200, .inl (fun _ => 0))), (q_m_endPlace, .inl (cI, 40000, .inl (fun _ => 0))), (q_m_endAt, .inl (cI, 40000, .inl (fun _ => 0))), (q_m_countsWritten, .inl (cI, 4, .inl (fun _ => 0)))] H := hP
  have hD : va_D _ [(b, .inr (7, [.int 0, .ref q_m_tape, .int 0, .ref q_m_store, .int 0, .int 0, .int 0, .int 0, .ref q_m_section, .ref q_m_type, .ref q_m_kind, .ref q_m_time, .ref q_m_nameAt, .ref q_m_nameSize, .ref q_m_dataAt, .ref q_m_dataSize, .int (-1), .int 0, .int 0, .int 0, .int 0, .int 0, .int 0, .ref q_m_message, .int 0, .int 0, .ref q_m_endPlace, .ref q_m_endAt, .int 0, .ref q_m_countsWritten])), (q_m_tape, .inl (cB, 65536, .inl (fun _ => 0))), (q_m_store, .inl (cB, 140000, .inl (fun _ => 0))), (q_m_section, .inl (cI, 1102, .inl (fun _ => 0))), (q_m_type, .inl (cI, 1102, .inl (fun _ => 0))), (q_m_kind, .inl (cI, 1102, .inl (fun _ => 0))), (q_m_time, .inl (cI, 1102, .inl (fun _ => 0))), (q_m_nameAt, .inl (cI, 1102, .inl (fun _ => 0))), (q_m_nameSize, .inl (cI, 1102, .inl (fun _ => 0))), (q_m_dataAt, .inl (cI, 1102, .inl (fun _ => 0))), (q_m_dataSize, .inl (cI, 1102, .inl (fun _ => 0))), (q_m_message, .inl (cB, 131200, .inl (fun _ => 0))), (q_m_endPlace, .inl (cI, 40000, .inl (fun _ => 0))), (q_m_endAt, .inl (cI, 40000, .inl (fun _ => 0))), (q_m_countsWritten, .inl (cI, 4, .inl (fun _ => 0)))] := hD
  exact mw_vret hx hb hr hlocks hS hP hD (by decide) (by decide) d_Mo_init_128 (⟨rfl, q_m_tape, q_m_store, q_m_section, q_m_type, q_m_kind, q_m_time, q_m_nameAt, q_m_nameSize, q_m_dataAt, q_m_dataSize, q_m_message, q_m_endPlace, q_m_endAt, q_m_countsWritten, rfl⟩)
end
section
/-! CONTRACTS THAT MAY THROW, in the same form; what the world is behind them isn't said -/
section MXA
variable {p : Program} {l : Launch} {e : Env} {R : Room} {s : State} {m : MethodId} {args : Array Value} {below : List Frame} {meth : Method} {c : Code} {H : Heap} {locs : List Loc} {cells slots : Nat} {Q : State → Prop}
variable {D : va_G} {cl : List vw_C} {tys : List (ClassId × FieldType)} {cc : ByteArray} {pc nL mc ms : Nat} {ls : Array Slot} {rest : List Value} {own : String} {ret : Option FieldType}
def mx_P (D : va_G) (cl : List vw_C) (tys : List (ClassId × FieldType)) (av : List Value) (ws : va_W) (sz : Nat) : Array Value → State → Prop :=
  va_Pc av (fun U => U.heap.size = sz ∧ va_P D cl ws U.heap ∧ va_K D cl tys U ∧ va_D (fun _ => True) ws ∧ tx_Z (va_A ws sz) U U.heap)
def MX (l : Launch) (D : va_G) (cl : List vw_C) (tys : List (ClassId × FieldType)) (y : MethodName) (cc : ByteArray) (nL : Nat) (ret : Option FieldType) (rm : Room) (av : List Value) (ws : va_W) (post : Int32 → Prop) (px : String → Prop) (mc ms : Nat) : Prop :=
  ∀ sz : Nat, tx_Met l y (Cond.code y cc nL ret :: GT) rm (mx_P D cl tys av ws sz) (tx_QI (fun r (_ : Unit) => post r) (fun _ _ => True) px (va_A ws sz)) mc ms (va_A ws sz)
theorem mx_of {y : MethodName} {rm : Room} {av : List Value} {ws : va_W} {post : Int32 → Prop} {px : String → Prop} (hy : plainName y.cls = true) (hn : (lg_sl av).length ≤ nL)
    (body : ∀ (p : Program) (e : Env) (s : State) (m : MethodId) (below : List Frame) (meth : Method) (c : Code) (ls : Array Slot), mw_C p s m av.toArray meth c cc nL ret y.cls D cl tys → c.exceptionTable.toList = [] → tx_Z (va_A ws s.heap.size) s s.heap → (∀ q : Nat, va_A ws s.heap.size q → ∀ cell, s.heap[q]? = some cell → cell.vm.isStatics = false) → va_P D cl ws s.heap → va_D (va_A ws s.heap.size) ws → (∀ q : Nat, s.heap.size ≤ q → va_A ws s.heap.size q) → va_S (va_A ws s.heap.size) s.heap s.heap [] → lv_has ls nL (lv_args 0 av) →
      W p l e rm s m av.toArray below meth c s.heap [] 0 0 (tx_Q below (tx_QI (fun r (_ : Unit) => post r) (fun _ _ => True) px (va_A ws s.heap.size)) av.toArray s mc ms (va_A ws s.heap.size)) (F0 m 0 ls [])) :
    MX l D cl tys y cc nL ret rm av ws post px mc ms := by
  intro sz
  refine tx_ofW (cc := cc) (maxL := nL) (ret := ret) hy rfl ?_
  intro p e s m args below meth c s₁ B hml he hv
  obtain ⟨rfl, hsz, hP, hK, hD0, hZ⟩ := hv
  subst hsz
  rw [lg_entry_eq]
  refine body p e s m below meth c _ ⟨B.exec, B.bytes, hml, B.returns, B.notSynchronized, findClass_of_methodNamed B.named, fun w hw => atoms_spec (ws := Cond.code y cc nL ret :: GT) B.pre w (List.mem_cons_of_mem _ hw), hK⟩ he hZ (fun q hq cell hc => ?_) hP hD0.self (fun q h => Or.inr h) va_S.rf (lv_entry av hn)
  rcases hq with ⟨k, e9, h⟩ | h
  · have h9 := hP k _ h
    cases e9 with
    | inl a =>
      have h8 : s.heap[q]? = some (vp_cell a.1 a.2) := h9
      cases hc.symm.trans h8
      obtain ⟨a1, a2, a3⟩ := a
      rcases a3 with f | f | f | f | f <;> rfl
    | inr o =>
      obtain ⟨r9, -, cell9, g1, -, g3, -⟩ := h9
      cases hc.symm.trans g1
      rw [g3]; rfl
  · have := (Array.getElem?_eq_some_iff.mp hc).1
    omega
theorem mx_ret {w0 : va_W} {post : Int32 → Prop} {px : String → Prop} {v : Int32} {ty : FieldType} (hexec : p.tables.exec = Jvm.exec) (hb : c.code = cc) (hr : meth.sig.returnType = some ty) (hlocks : meth.locks = false)
    (hS : va_S (va_A w0 s.heap.size) s.heap H locs) (hmc : cells ≤ mc) (hms : slots ≤ ms) (hdg : decode cc pc = .ok (.ireturn, 1)) (hn : narrow ty (.int v) = .int v) (hq : post v) :
    W p l e R s m args below meth c H locs cells slots (tx_Q below (tx_QI (fun r (_ : Unit) => post r) (fun _ _ => True) px (va_A w0 s.heap.size)) args s mc ms (va_A w0 s.heap.size)) (F0 m pc ls [.int v]) := by
  refine tx_ret (W.widen hmc hms ?_)
  exact W.zret hexec hb hr hn (fun t ht hW => ⟨Or.inl ⟨v, (), rfl, hq, trivial⟩, hS.F ht⟩) hS.2.2 hdg hlocks
theorem mx_throw {w0 : va_W} {post : Int32 → Prop} {px : String → Prop} {cls : String} {names : List String} {ik ic : Nat} (hfl : l.flags = pinnedFlags ++ [noTraceFlag]) (C0 : mw_C p s m args meth c cc nL ret own D cl tys) (hZ : tx_Z (va_A w0 s.heap.size) s s.heap) (hlc : ∀ q : Nat, va_A w0 s.heap.size q → ∀ cell, s.heap[q]? = some cell → cell.vm.isStatics = false) (hout : c.exceptionTable.toList = [])
    (hcls : Bundle.fit cls = true) (hnames : ∀ n ∈ names, Bundle.fit n = true) (hat : ∀ w ∈ (Bundle.ownAtoms0 own ic cls names).filter tx_tab, w ∈ GT) (hk : Cond.classLink own ik cls ∈ GT) (hini : Cond.initialized cls ∈ GT)
    (hS : va_S (va_A w0 s.heap.size) s.heap H locs) (hsz : ls.size = nL) (hRf : names.length + 3 < R.frames) (hRl : (rest.map fun v => v.category).sum + (13 * (names.length + 1) + 42) ≤ R.locals) (hRc : cells + 1 ≤ R.cells) (hRs : slots + 6 ≤ R.slots) (hmc : cells + 1 ≤ mc) (hms : slots + 6 ≤ ms)
    (d0 : decode cc pc = .ok (.new ik, 3)) (d3 : decode cc (pc + 3) = .ok (.dup, 1)) (d4 : decode cc (pc + 4) = .ok (.invokespecial ic, 3)) (d7 : decode cc (pc + 7) = .ok (.athrow, 1)) (hq : px cls) :
    W p l e R s m args below meth c H locs cells slots (tx_Q below (tx_QI (fun r (_ : Unit) => post r) (fun _ _ => True) px (va_A w0 s.heap.size)) args s mc ms (va_A w0 s.heap.size)) (F0 m pc ls rest) := by
  obtain ⟨hx, hb, hml, hr, hlocks, hown, hts, hK⟩ := C0
  exact tx_throw hx hb hfl hown hcls hnames hZ (fun w hw => hts w (hat w hw)) (hts _ hk) (hts _ hini) hS hlc (hsz.trans hml.symm) hout hlocks hRf hRl hRc hRs hmc hms d0 d3 d4 d7 hS.2.2
    (fun q ce t hW hz hce hcv hcl hF => ⟨Or.inr ⟨q, cls, ce, rfl, hq, hce, hcv, hcl⟩, hF⟩)
end MXA
end
section
theorem sw_lo {x : Int32} (h : x < 0) : x.toInt < 0 := by
  have := Int32.lt_iff_toInt_lt.mp h
  simpa using this
theorem sw_hi {x : Int32} {N : Nat} (h : nI N ≤ x) (hN : N < 2 ^ 31) (h0 : 0 < N) : ((N - 1 : Nat) : Int) < x.toInt := by
  have h1 := Int32.le_iff_toInt_le.mp h
  rw [nI_toInt hN] at h1
  omega
theorem sw_in {x : Int32} {N : Nat} (h1 : ¬ x < 0) (h2 : ¬ nI N ≤ x) (hN : N < 2 ^ 31) : vp_in x N := by
  rcases pk_ix x (n := N) hN with h | h | ⟨j, hj, rfl⟩
  · exact absurd h h1
  · exact absurd h h2
  · exact vp_in_nI hj hN
section MXB
variable {p : Program} {l : Launch} {e : Env} {R : Room} {s : State} {m : MethodId} {args : Array Value} {below : List Frame} {meth : Method} {c : Code} {H : Heap} {locs : List Loc} {cells slots : Nat} {Q : State → Prop}
variable {D : va_G} {cl : List vw_C} {tys : List (ClassId × FieldType)} {cc : ByteArray} {pc nL mc ms : Nat} {ls : Array Slot} {rest : List Value} {own : String} {ret : Option FieldType}
theorem mx_blind {av : List Value} {w1 : va_W} {sz : Nat} : FrameBlind (mx_P D cl tys av w1 sz) := fun a U g mk q => by
  obtain ⟨q0, q1, qP, qK, qD, qZ⟩ := q
  exact ⟨q0, q1, qP, va_K.moved (u := U) (U := U.calling g mk a) (Vm.Alike.refl U.vm) qK, qD, qZ.moved (u := U) (U := U.calling g mk a) (Vm.Alike.refl U.vm)⟩
/-- a call at a method's start, of a method that always throws, in a method that doesn't catch it -/
theorem mx_pass {y : MethodName} {cy : ByteArray} {ny idx : Nat} {rm : Room} {As st0 : List Value} {ws : va_W} {ry : Option FieldType} {b ci k : Nat} {q : vw_C} {fs : List Value} {post : Int32 → Prop} {px1 px : String → Prop} (C0 : mw_C p s m args meth c cc nL ret own D cl tys) (hM : MX l D cl tys y cy ny ry rm (.ref b :: As) ws (fun _ => False) px1 mc ms) (hcw : Cond.code y cy ny ry ∈ GT) (hini : Cond.initialized y.cls ∈ GT) (hl : Cond.methodLink own idx y ∈ GT) (hin : Cond.instanceMethod y ∈ GT) (hse : Cond.selects q.1 y y ∈ GT)
    (hd : y.cls ≠ "java/lang/invoke/MethodHandle" ∧ y.cls ≠ "java/lang/invoke/VarHandle" ∧ (parseMethodDescriptor y.desc).map (fun d => d.parameters.length) = some As.length) (hR : rm.frames + 1 ≤ R.frames ∧ 8 + (ny + 11) + rm.locals ≤ R.locals) (hrc : rm.cells = mc) (hrs : rm.slots = ms)
    (hout : c.exceptionTable.toList = []) (hZ : tx_Z (va_A ws s.heap.size) s s.heap) (hP : va_P D cl ws s.heap) (hD : va_D (va_A ws s.heap.size) ws) (hS : va_S (va_A ws s.heap.size) s.heap s.heap []) (hc : cl[ci]? = some q) (he : ws[k]? = some (b, .inr (ci, fs))) (hsz : ls.size = nL) (hW : (rest.map fun v => v.category).sum ≤ 8) (hst : st0 = As.reverse ++ .ref b :: rest) (hdg : decode cc pc = .ok (.invokevirtual idx, 3)) (hf : 0 + mc ≤ R.cells ∧ 0 + ms ≤ R.slots)
    (hpx : ∀ E, px1 E → px E) :
    W p l e R s m args below meth c s.heap [] 0 0 (tx_Q below (tx_QI (fun r (_ : Unit) => post r) (fun _ _ => True) px (va_A ws s.heap.size)) args s (0 + mc) (0 + ms) (va_A ws s.heap.size)) (F0 m pc ls st0) := by
  obtain ⟨hx, hb, hml, hr, hlocks, hown, hts, hK⟩ := C0
  have pay : ∀ w ∈ (Cond.code y cy ny ry :: GT), ∀ (a' : Array Value) (U : State), s.WarmedH U.vm → w.before a' U = true := fun w hw a' U hU => (List.mem_cons.mp hw).elim (fun e9 => by rw [e9]; exact gt_pay hcw (hts _ hcw) a' U hU) (fun h9 => gt_pay h9 (hts _ h9) a' U hU)
  have hlen : ∀ sig, parseMethodDescriptor y.desc = some sig → As.length = sig.parameters.length := fun sig h => by
    have h2 := hd.2.2
    rw [h] at h2
    exact (Option.some.inj h2).symm
  subst hst
  refine tx_calli (A1 := va_A ws s.heap.size) (tx_virt (Ts := GT) (own := own) (C := q.1) ⟨hx, hb, hml, hown, hts⟩ (hM s.heap.size) ⟨⟨hrc, hrs, hR.1, hR.2, pay, List.mem_cons_self, hts _ hcw, hts _ hini, ⟨hd.1, hd.2.1⟩, hlen, hts _ hl⟩, hts _ hin, hts _ hse⟩ ⟨mx_blind, va_recv hK hP hc he, fun U hU hW => ⟨rfl, by rw [hU], by rw [hU]; exact hP, va_K.moved hW.alike hK, hD.weaken (fun _ _ _ _ => trivial), by rw [hU]; exact hZ.moved hW.alike⟩⟩ rfl rfl hsz rfl (lv_room hW) hdg hf) hS (fun _ _ h => h) (fun _ h => h) ?_ ?_
  · intro q9 E ce H1 locs1 h1 h2 h3 h4 h5 h6 h7
    exact tx_leave hout hlocks h7.2.2 (fun t ht hW => ⟨Or.inr ⟨q9, E, ce, rfl, hpx E h1, by rw [ht]; exact h2, h3, h4⟩, h7.F ht⟩)
  · intro r u t H1 locs1 h1 h2 h3
    exact absurd h3 id
end MXB
end
section
/-! THE LAW'S HELPERS: static methods with handlers; and their calls -/
section MHA
variable {p : Program} {l : Launch} {e : Env} {R : Room} {s : State} {m : MethodId} {args : Array Value} {below : List Frame} {meth : Method} {c : Code} {H : Heap} {locs : List Loc} {cells slots : Nat} {Q : State → Prop}
variable {D : va_G} {cl : List vw_C} {tys : List (ClassId × FieldType)} {cc : ByteArray} {pc nL mc ms : Nat} {ls : Array Slot} {rest : List Value} {own : String} {ret : Option FieldType}
/-- what the one handler that is passed by rests on -/
def no9 (U : State) : Prop := ∀ c1 c2 : ClassId, U.vm.findClass "java/lang/IllegalArgumentException" = some c1 → U.vm.findClass "java/util/NoSuchElementException" = some c2 → U.vm.assignable c1 c2 = false
theorem no9.moved {u U : State} (hvm : u.vm.Alike U.vm) (h : no9 u) : no9 U := fun c1 c2 h1 h2 => by
  rw [hvm.findClass] at h1 h2
  rw [hvm.assignable]
  exact h c1 c2 h1 h2
def mh_P (D : va_G) (cl : List vw_C) (tys : List (ClassId × FieldType)) (av : List Value) (ws : va_W) (sz : Nat) : Array Value → State → Prop := fun v U => mx_P D cl tys av ws sz v U ∧ no9 U
def MH (l : Launch) (D : va_G) (cl : List vw_C) (tys : List (ClassId × FieldType)) (y : MethodName) (cc : ByteArray) (nL : Nat) (hh : List (Nat × Nat × Nat × Nat)) (rm : Room) (av : List Value) (ws : va_W) (post : Option Value → va_W → Prop) (mc ms : Nat) : Prop :=
  ∀ sz : Nat, tx_Met l y (Cond.codeWith y cc nL (some .int) hh :: GT) rm (mh_P D cl tys av ws sz) (mw_Q D cl ws sz post) mc ms (va_A ws sz)
theorem mh_of {y : MethodName} {rm : Room} {av : List Value} {ws : va_W} {post : Option Value → va_W → Prop} {hh : List (Nat × Nat × Nat × Nat)} (hy : plainName y.cls = true) (hn : (lg_sl av).length ≤ nL)
    (body : ∀ (p : Program) (e : Env) (s : State) (m : MethodId) (below : List Frame) (meth : Method) (c : Code) (ls : Array Slot), mw_C p s m av.toArray meth c cc nL (some .int) y.cls D cl tys → c.exceptionTable.toList.map (fun h => (h.startPc, h.endPc, h.handlerPc, h.catchType)) = hh → no9 s → tx_Z (va_A ws s.heap.size) s s.heap → va_P D cl ws s.heap → va_D (va_A ws s.heap.size) ws → (∀ q : Nat, s.heap.size ≤ q → va_A ws s.heap.size q) → va_S (va_A ws s.heap.size) s.heap s.heap [] → lv_has ls nL (lv_args 0 av) →
      W p l e rm s m av.toArray below meth c s.heap [] 0 0 (tx_Q below (mw_Q D cl ws s.heap.size post) av.toArray s mc ms (va_A ws s.heap.size)) (F0 m 0 ls [])) :
    MH l D cl tys y cc nL hh rm av ws post mc ms := by
  intro sz
  refine MetFree.of_bodyS (code := cc) (maxLocals := nL) (ret := some .int) hy ?_ ?_
  · intro args s m h hn
    obtain ⟨m9, meth, c, hn9, h1, h2, h3, h4, -, h5, h6, -⟩ := Cond.codeWith_spec (atoms_spec (ws := Cond.codeWith y cc nL (some .int) hh :: GT) h _ List.mem_cons_self)
    cases hn.symm.trans hn9
    exact ⟨meth, c, h1, h2, h3, h4, h5, h6⟩
  · intro p e s m args below meth c s₁ B hml hv _
    have hh0 : s₁.heap = s.heap := by rw [B.state]; rfl
    have htab : c.exceptionTable.toList.map (fun h => (h.startPc, h.endPc, h.handlerPc, h.catchType)) = hh := by
      obtain ⟨m9, meth9, c9, hn9, h1, h2, h3, h4, h5, -⟩ := Cond.codeWith_spec (atoms_spec (ws := Cond.codeWith y cc nL (some .int) hh :: GT) B.pre _ List.mem_cons_self)
      cases B.named.symm.trans hn9
      cases B.method.symm.trans h1
      cases (Stand.of_body B).code.symm.trans h2
      exact h5
    obtain ⟨⟨rfl, hsz, hP, hK, hD0, hZ⟩, h9⟩ := hv
    subst hsz
    have K := body p e s m below meth c _ ⟨B.exec, B.bytes, hml, B.returns, B.notSynchronized, findClass_of_methodNamed B.named, fun w hw => atoms_spec (ws := Cond.codeWith y cc nL (some .int) hh :: GT) B.pre w (List.mem_cons_of_mem _ hw), hK⟩ htab h9 hZ hP hD0.self (fun q h => Or.inr h) va_S.rf (lv_entry av hn)
    rw [← lg_entry_eq] at K
    obtain ⟨t, a1, o, b1, b2, b3⟩ := K s₁ hh0 (Stand.of_body B)
    exact ⟨t, o, a1, b1, b2, b3⟩
/-- a call of a method that may throw, on a part of the world, before anything was written -/
theorem mh_cX {y : MethodName} {cy : ByteArray} {ny idx : Nat} {rm : Room} {As st0 : List Value} {ws w1 wr : va_W} {ry : Option FieldType} {b ci k : Nat} {q : vw_C} {fs : List Value} {post : Int32 → Prop} {px : String → Prop} (C0 : mw_C p s m args meth c cc nL ret own D cl tys) (hM : MX l D cl tys y cy ny ry rm (.ref b :: As) w1 post px mc ms) (hcw : Cond.code y cy ny ry ∈ GT) (hini : Cond.initialized y.cls ∈ GT) (hl : Cond.methodLink own idx y ∈ GT) (hin : Cond.instanceMethod y ∈ GT) (hse : Cond.selects q.1 y y ∈ GT)
    (hd : y.cls ≠ "java/lang/invoke/MethodHandle" ∧ y.cls ≠ "java/lang/invoke/VarHandle" ∧ (parseMethodDescriptor y.desc).map (fun d => d.parameters.length) = some As.length) (hR : rm.frames + 1 ≤ R.frames ∧ 8 + (ny + 11) + rm.locals ≤ R.locals) (hrc : rm.cells = mc) (hrs : rm.slots = ms)
    (hZ : tx_Z (va_A ws s.heap.size) s s.heap) (hP0 : va_P D cl ws s.heap) (hD0 : va_D (va_A ws s.heap.size) ws) (hS : va_S (va_A ws s.heap.size) s.heap s.heap []) (isC isR : List Nat) (hC : isC.map (fun i => ws[i]?) = w1.map some) (hR9 : isR.map (fun i => ws[i]?) = wr.map some) (hnC : va_nd isC = true) (hn : va_nd isR = true) (hdis : ∀ i ∈ isR, i ∉ isC)
    (hc : cl[ci]? = some q) (he : w1[k]? = some (b, .inr (ci, fs))) (hsz : ls.size = nL) (hW : (rest.map fun v => v.category).sum ≤ 8) (hst : st0 = As.reverse ++ .ref b :: rest) (hdg : decode cc pc = .ok (.invokevirtual idx, 3)) (hf : 0 + mc ≤ R.cells ∧ 0 + ms ≤ R.slots)
    (kx : ∀ (q9 : Addr) (E : String) (ce : Cell) (H1 : Heap) (locs1 : List Loc), px E → H1[q9]? = some ce → ce.vm = .none → s.vm.findClass E = some ce.cls → va_P D cl wr H1 → va_D (va_A ws s.heap.size) wr → va_S (va_A ws s.heap.size) s.heap H1 locs1 → tx_W p l e R s m args below meth c H1 locs1 (0 + mc) (0 + ms) Q (F0 m pc ls rest) q9)
    (kk : ∀ (r : Int32) (H1 : Heap) (locs1 : List Loc), post r → va_P D cl wr H1 → va_D (va_A ws s.heap.size) wr → va_S (va_A ws s.heap.size) s.heap H1 locs1 → W p l e R s m args below meth c H1 locs1 (0 + mc) (0 + ms) Q (F0 m (pc + 3) ls (.int r :: rest))) :
    W p l e R s m args below meth c s.heap [] 0 0 Q (F0 m pc ls st0) := by
  obtain ⟨hx, hb, hml, hr, hlocks, hown, hts, hK⟩ := C0
  have pay : ∀ w ∈ (Cond.code y cy ny ry :: GT), ∀ (a' : Array Value) (U : State), s.WarmedH U.vm → w.before a' U = true := fun w hw a' U hU => (List.mem_cons.mp hw).elim (fun e9 => by rw [e9]; exact gt_pay hcw (hts _ hcw) a' U hU) (fun h9 => gt_pay h9 (hts _ h9) a' U hU)
  have hlen : ∀ sig, parseMethodDescriptor y.desc = some sig → As.length = sig.parameters.length := fun sig h => by
    have h2 := hd.2.2
    rw [h] at h2
    exact (Option.some.inj h2).symm
  subst hst
  have hP : va_P D cl w1 s.heap := hP0.sub isC (by rw [fm_of hC])
  have hD : va_D (va_A ws s.heap.size) w1 := hD0.sub isC hnC hC
  have hA : ∀ q : Nat, s.heap.size ≤ q → va_A ws s.heap.size q := fun q h => Or.inr h
  have hF : ∀ q : Nat, va_A w1 s.heap.size q → va_A ws s.heap.size q := va_free (wc := w1) hD0 hS hA isC hC
  have hZ1 : tx_Z (va_A w1 s.heap.size) s s.heap := hZ.narrow (fun q _ h => hF q h)
  have hj : ∀ H1 : Heap, (∀ q : Nat, q < s.heap.size → ¬ va_A w1 s.heap.size q → H1[q]? = s.heap[q]?) → va_P D cl wr H1 ∧ va_D (va_A ws s.heap.size) wr := fun H1 h1 => by
    have h2 := va_join (wc := w1) (wr := wr) (w1 := []) (H1 := H1) hP0 hD0 isC isR hC hR9 hn hdis h1 hF (fun k q h => by simp at h) ⟨fun i j p q h => by simp at h, fun k q h => by simp at h⟩
    rw [List.append_nil] at h2
    exact h2
  refine tx_calli (A1 := va_A w1 s.heap.size) (tx_virt (Ts := GT) (own := own) (C := q.1) ⟨hx, hb, hml, hown, hts⟩ (hM s.heap.size) ⟨⟨hrc, hrs, hR.1, hR.2, pay, List.mem_cons_self, hts _ hcw, hts _ hini, ⟨hd.1, hd.2.1⟩, hlen, hts _ hl⟩, hts _ hin, hts _ hse⟩ ⟨mx_blind, va_recv hK hP hc he, fun U hU hW => ⟨rfl, by rw [hU], by rw [hU]; exact hP, va_K.moved hW.alike hK, hD.weaken (fun _ _ _ _ => trivial), by rw [hU]; exact hZ1.moved hW.alike⟩⟩ rfl rfl hsz rfl (lv_room hW) hdg hf) hS (fun q _ h => hF q h) hF ?_ ?_
  · intro q9 E ce H1 locs1 h1 h2 h3 h4 h5 h6 h7
    obtain ⟨j1, j2⟩ := hj H1 h6
    exact kx q9 E ce H1 locs1 h1 h2 h3 h4 j1 j2 h7
  · intro r u t H1 locs1 h1 h2 h3 h4 h5 h6 h7
    obtain ⟨j1, j2⟩ := hj H1 h6
    exact kk r H1 locs1 h3 j1 j2 h7
/-- rows of a table by their numbers -/
theorem mh_row {L : List ExceptionTableEntry} {a b h t : Nat} {hh : List (Nat × Nat × Nat × Nat)} (e9 : L.map (fun h => (h.startPc, h.endPc, h.handlerPc, h.catchType)) = (a, b, h, t) :: hh) : ∃ x L', L = x :: L' ∧ x.startPc = a ∧ x.endPc = b ∧ x.handlerPc = h ∧ x.catchType = t ∧ L'.map (fun h => (h.startPc, h.endPc, h.handlerPc, h.catchType)) = hh := by
  cases L with
  | nil => cases e9
  | cons x L' =>
    simp only [List.map_cons, List.cons.injEq, Prod.mk.injEq] at e9
    exact ⟨x, L', rfl, e9.1.1, e9.1.2.1, e9.1.2.2.1, e9.1.2.2.2, e9.2⟩
theorem mh_hit {H : Heap} {q9 : Addr} {a b h t : Nat} {L : List ExceptionTableEntry} {hh : List (Nat × Nat × Nat × Nat)} {E : String} {ce : Cell} (C0 : mw_C p s m args meth c cc nL ret own D cl tys) (e9 : L.map (fun h => (h.startPc, h.endPc, h.handlerPc, h.catchType)) = (a, b, h, t) :: hh) (h1 : a ≤ pc) (h2 : pc < b) (h0 : t ≠ 0) (hlink : Cond.classLink own t E ∈ GT)
    (hcell : H[q9]? = some ce) (hv : ce.vm = .none) (hcl : s.vm.findClass E = some ce.cls) (e : Env) (ha : l.admits e) : tx_FT e (F0 m pc ls rest) q9 L h s H := by
  obtain ⟨hx, hb, hml, hr, hlocks, hown, hts, hK⟩ := C0
  obtain ⟨x, L', rfl, rfl, rfl, rfl, rfl, -⟩ := mh_row e9
  exact tx_hit (args := args) (by rw [ha.platform]) (by simp [covers, h1, h2]) h0 hown (hts _ hlink) hcell hv hcl
theorem mh_miss {H : Heap} {q9 : Addr} {a b h t h5 : Nat} {L : List ExceptionTableEntry} {hh : List (Nat × Nat × Nat × Nat)} {ce : Cell} (C0 : mw_C p s m args meth c cc nL ret own D cl tys) (h9 : no9 s) (e9 : L.map (fun h => (h.startPc, h.endPc, h.handlerPc, h.catchType)) = (a, b, h, t) :: hh) (h1 : a ≤ pc) (h2 : pc < b) (h0 : t ≠ 0) (hlink : Cond.classLink own t "java/util/NoSuchElementException" ∈ GT)
    (hcell : H[q9]? = some ce) (hv : ce.vm = .none) (hcl : s.vm.findClass "java/lang/IllegalArgumentException" = some ce.cls) (e : Env) (ha : l.admits e) (hL : ∀ L' : List ExceptionTableEntry, L'.map (fun h => (h.startPc, h.endPc, h.handlerPc, h.catchType)) = hh → tx_FT e (F0 m pc ls rest) q9 L' h5 s H) : tx_FT e (F0 m pc ls rest) q9 L h5 s H := by
  obtain ⟨hx, hb, hml, hr, hlocks, hown, hts, hK⟩ := C0
  have hpl : e.platform.magicAccessors = ({} : Platform).magicAccessors := by rw [ha.platform]
  obtain ⟨c5, hc5, -⟩ := Cond.classLink_spec hown (hts _ hlink) e.platform hpl
  have hno : (Cond.not (.castable "java/lang/IllegalArgumentException" "java/util/NoSuchElementException")).before args s = true := Cond.holds_not_iff.mpr (by simp only [Cond.value, hcl, hc5]; rw [h9 _ _ hcl hc5])
  obtain ⟨x, L', rfl, rfl, rfl, rfl, rfl, e8⟩ := mh_row e9
  exact tx_miss (args := args) hpl (by simp [covers, h1, h2]) h0 hown (hts _ hlink) hno hcell hv hcl (hL L' e8)
theorem mh_cS {A0 : Nat → Prop} {y : MethodName} {cy : ByteArray} {ny idx : Nat} {hh : List (Nat × Nat × Nat × Nat)} {rm : Room} {As st0 : List Value} {ws w1 wr : va_W} {post : Option Value → va_W → Prop} (C0 : mw_C p s m args meth c cc nL ret own D cl tys) (hM : MH l D cl tys y cy ny hh rm As w1 post mc ms) (hcw : Cond.codeWith y cy ny (some .int) hh ∈ GT) (hini : Cond.initialized y.cls ∈ GT) (hl : Cond.methodLink own idx y ∈ GT) (hstt : Cond.static y ∈ GT)
    (hd : y.cls ≠ "java/lang/invoke/MethodHandle" ∧ y.cls ≠ "java/lang/invoke/VarHandle" ∧ (parseMethodDescriptor y.desc).map (fun d => d.parameters.length) = some As.length) (hR : rm.frames + 1 ≤ R.frames ∧ 8 + (ny + 11) + rm.locals ≤ R.locals) (hrc : rm.cells = mc) (hrs : rm.slots = ms)
    (hZ : tx_Z A0 s s.heap) (h9 : no9 s) (hP0 : va_P D cl ws H) (hD0 : va_D A0 ws) (hS : va_S A0 s.heap H locs) (hA : ∀ q : Nat, s.heap.size ≤ q → A0 q) (isC isR : List Nat) (hC : isC.map (fun i => ws[i]?) = w1.map some) (hR9 : isR.map (fun i => ws[i]?) = wr.map some) (hnC : va_nd isC = true) (hn : va_nd isR = true) (hdis : ∀ i ∈ isR, i ∉ isC)
    (hsz : ls.size = nL) (hW : (rest.map fun v => v.category).sum ≤ 8) (hst : st0 = As.reverse ++ rest) (hdg : decode cc pc = .ok (.invokestatic idx, 3)) (hf : cells + mc ≤ R.cells ∧ slots + ms ≤ R.slots)
    (kk : ∀ (v : Option Value) (w2 : va_W) (H1 : Heap) (locs1 : List Loc), post v w2 → va_P D cl (wr ++ w2) H1 → va_D A0 (wr ++ w2) → va_S A0 s.heap H1 locs1 → W p l e R s m args below meth c H1 locs1 (cells + mc) (slots + ms) Q (F0 m (pc + 3) ls (v.toList ++ rest))) :
    W p l e R s m args below meth c H locs cells slots Q (F0 m pc ls st0) := by
  obtain ⟨hx, hb, hml, hr, hlocks, hown, hts, hK⟩ := C0
  have pay : ∀ w ∈ (Cond.codeWith y cy ny (some .int) hh :: GT), ∀ (a' : Array Value) (U : State), s.WarmedH U.vm → w.before a' U = true := fun w hw a' U hU => (List.mem_cons.mp hw).elim (fun e9 => by rw [e9]; exact gt_pay hcw (hts _ hcw) a' U hU) (fun h9 => gt_pay h9 (hts _ h9) a' U hU)
  subst hst
  have hP : va_P D cl w1 H := hP0.sub isC (by rw [fm_of hC])
  have hD : va_D A0 w1 := hD0.sub isC hnC hC
  have hF : ∀ q : Nat, va_A w1 H.size q → A0 q := va_free (wc := w1) hD0 hS hA isC hC
  have hZ1 : tx_Z (va_A w1 H.size) s H := (hZ.kept hS.2.1).narrow (fun q _ h => hF q h)
  have hrun := tx_statW (p := p) (e := e) (below := below) (meth := meth) (H := H) (locs := locs) (cells := cells) (slots := slots) (Ts := GT) (own := own) (As := As) (rest := rest) (g := F0 m pc ls (As.reverse ++ rest)) ⟨hx, hb, hml, hown, hts⟩ (hM H.size) hrc hrs hR.1 hR.2 pay List.mem_cons_self (hts _ hini) (hts _ hstt) (hts _ hl) ⟨hd.1, hd.2.1⟩ hd.2.2
    ⟨fun a U g mk q => ⟨mx_blind a U g mk q.1, q.2.moved (u := U) (U := U.calling g mk a) (Vm.Alike.refl U.vm)⟩, fun U hU hW => ⟨⟨rfl, by rw [hU], by rw [hU]; exact hP, va_K.moved hW.alike hK, hD.weaken (fun _ _ _ _ => trivial), by rw [hU]; exact hZ1.moved hW.alike⟩, h9.moved hW.alike⟩⟩ rfl hsz rfl (lv_room hW) hdg hf
  intro T hT X
  obtain ⟨o, st₀, t, T', L, g0, g0v, X', hL, e1, e2, ⟨⟨v2, w2, hv, hp, hP2, hD2⟩, hz, hk⟩, hor⟩ := hrun T hT X
  subst hv
  rw [g0] at hz hk
  rcases hor with ⟨v, hv, st⟩ | ⟨x, hv, st⟩
  · cases hv
    obtain ⟨j1, j2⟩ := va_join (wc := w1) (wr := wr) (w1 := w2) (H1 := T'.heap) hP0 hD0 isC isR hC hR9 hn hdis (fun q h1 h2 => by rw [e1]; exact hk q h1 h2) hF (by rw [e1]; exact hP2) hD2
    obtain ⟨t2, a1, b1⟩ := kk v2 w2 T'.heap (locs ++ L) hp j1 j2
      ⟨Nat.le_trans hS.1 (by rw [e1]; exact hz), fun q h1 h2 => by rw [e1, hk q (Nat.lt_of_lt_of_le h1 hS.1) (fun z => h2 (hF q z))]; exact hS.2.1 q h1 h2, fun q hq => by
        rcases List.mem_append.mp hq with h | h
        · exact hS.2.2 q h
        · exact hF _ (hL q h)⟩ T' rfl X'
    exact ⟨t2, st t2 a1, b1⟩
  · cases hv
end MHA
end
section
/-! ONE WORLD for all methods: all cells of the class, of the reference and of the law; numbers in I, rows in F -/
def uf {α : Type} (f : Nat → α) (k : Nat) (v : α) : Nat → α := fun j => if j = k then v else f j
theorem uf_s {α : Type} {f : Nat → α} {k : Nat} {v : α} : uf f k v k = v := by simp [uf]
theorem uf_n {α : Type} {f : Nat → α} {k j : Nat} {v : α} (h : j ≠ k) : uf f k v j = f j := by simp [uf, h]
theorem uf_id {α : Type} {f : Nat → α} {k : Nat} : uf f k (f k) = f := by
  funext j
  by_cases h : j = k
  · subst h; exact uf_s
  · exact uf_n h
theorem uf_uf {α : Type} {f : Nat → α} {k : Nat} {v w : α} : uf (uf f k v) k w = uf f k w := by
  funext j
  by_cases h : j = k
  · subst h; rw [uf_s, uf_s]
  · rw [uf_n h, uf_n h, uf_n h]
/-- but for the places in L, g is f -/
def sm {α : Type} (L : List Nat) (f g : Nat → α) : Prop := ∀ k, k ∉ L → g k = f k
theorem sm_rf {α : Type} {L : List Nat} {f : Nat → α} : sm L f f := fun _ _ => rfl
theorem sm_tr {α : Type} {L : List Nat} {f g h : Nat → α} (h1 : sm L f g) (h2 : sm L g h) : sm L f h := fun k hk => (h2 k hk).trans (h1 k hk)
theorem sm_mo {α : Type} {L M : List Nat} {f g : Nat → α} (h : sm L f g) (hL : ∀ k ∈ L, k ∈ M) : sm M f g := fun k hk => h k (fun z => hk (hL k z))
theorem sm_up {α : Type} {L : List Nat} {f g : Nat → α} {k : Nat} {v : α} (h : sm L f g) (hk : k ∈ L) : sm L f (uf g k v) := fun j hj => by
  rw [uf_n (show j ≠ k from fun e => hj (by rw [e]; exact hk))]; exact h j hj
def WW (a : Nat → Nat) (cB cI cJ cG : ClassId) (I : Nat → Int32) (F : Nat → Nat → Int32) (O : Nat → Int64) : va_W := [(a 0, .inr (6, [.ref (a 1), .ref (a 19), .ref (a 17), .ref (a 18), .ref (a 30), .int (I 0), .int (I 1)])),
  (a 1, .inr (0, [.ref (a 2), .int (I 2)])),
  (a 2, .inl (cB, 65536, .inl (F 2))),
  (a 3, .inr (0, [.ref (a 4), .int (I 3)])),
  (a 4, .inl (cB, 65536, .inl (F 4))),
  (a 5, .inl (cI, 1100, .inl (F 5))),
  (a 6, .inl (cI, 1100, .inl (F 6))),
  (a 7, .inl (cI, 1100, .inl (F 7))),
  (a 8, .inl (cI, 1100, .inl (F 8))),
  (a 9, .inl (cI, 1100, .inl (F 9))),
  (a 10, .inl (cI, 1100, .inl (F 10))),
  (a 11, .inl (cG, 4, .inr (.inr (.inr (.inr (fun i => if i < 4 then some (a (12 + i)) else none)))))),
  (a 12, .inl (cI, 1000, .inl (F 12))),
  (a 13, .inl (cI, 1000, .inl (F 13))),
  (a 14, .inl (cI, 1000, .inl (F 14))),
  (a 15, .inl (cI, 1000, .inl (F 15))),
  (a 16, .inl (cI, 4, .inl (F 16))),
  (a 17, .inr (4, [.ref (a 1), .ref (a 19), .int (I 4), .int (I 5), .int (I 6), .int (I 7), .int (I 8), .int (I 9)])),
  (a 18, .inr (5, [.ref (a 19), .ref (a 20), .ref (a 24), .ref (a 22), .ref (a 23), .int (I 10)])),
  (a 19, .inr (2, [.ref (a 3), .ref (a 5), .ref (a 6), .ref (a 7), .ref (a 8), .ref (a 9), .ref (a 10), .ref (a 11), .ref (a 16), .int (I 11), .int (I 12)])),
  (a 20, .inr (0, [.ref (a 21), .int (I 13)])),
  (a 21, .inl (cB, 65536, .inl (F 21))),
  (a 22, .inl (cI, 127, .inl (F 22))),
  (a 23, .inl (cI, 127, .inl (F 23))),
  (a 24, .inr (1, [.ref (a 3), .ref (a 25), .ref (a 26), .ref (a 27), .ref (a 28), .ref (a 29), .int (I 14)])),
  (a 25, .inl (cI, 4096, .inl (F 25))),
  (a 26, .inl (cI, 8192, .inl (F 26))),
  (a 27, .inl (cI, 8192, .inl (F 27))),
  (a 28, .inl (cI, 8192, .inl (F 28))),
  (a 29, .inl (cI, 8192, .inl (F 29))),
  (a 30, .inr (3, [.ref (a 3), .ref (a 31), .ref (a 32)])),
  (a 31, .inl (cI, 127, .inl (F 31))),
  (a 32, .inl (cI, 127, .inl (F 32))),
  (a 33, .inr (7, [.int (I 15), .ref (a 34), .int (I 16), .ref (a 35), .int (I 17), .int (I 18), .int (I 19), .int (I 20), .ref (a 36), .ref (a 37), .ref (a 38), .ref (a 39), .ref (a 40), .ref (a 41), .ref (a 42), .ref (a 43), .int (I 21), .int (I 22), .int (I 23), .int (I 24), .int (I 25), .int (I 26), .int (I 27), .ref (a 44), .int (I 28), .int (I 29), .ref (a 45), .ref (a 46), .int (I 30), .ref (a 47)])),
  (a 34, .inl (cB, 65536, .inl (F 34))),
  (a 35, .inl (cB, 140000, .inl (F 35))),
  (a 36, .inl (cI, 1102, .inl (F 36))),
  (a 37, .inl (cI, 1102, .inl (F 37))),
  (a 38, .inl (cI, 1102, .inl (F 38))),
  (a 39, .inl (cI, 1102, .inl (F 39))),
  (a 40, .inl (cI, 1102, .inl (F 40))),
  (a 41, .inl (cI, 1102, .inl (F 41))),
  (a 42, .inl (cI, 1102, .inl (F 42))),
  (a 43, .inl (cI, 1102, .inl (F 43))),
  (a 44, .inl (cB, 131200, .inl (F 44))),
  (a 45, .inl (cI, 40000, .inl (F 45))),
  (a 46, .inl (cI, 40000, .inl (F 46))),
  (a 47, .inl (cI, 4, .inl (F 47))),
  (a 48, .inl (cJ, 1, .inr (.inl O)))]
section WWA
variable {a : Nat → Nat} {cB cI cJ cG : ClassId} {I : Nat → Int32} {F : Nat → Nat → Int32} {O : Nat → Int64} {D : va_G} {cl : List vw_C} {H : Heap} {A : Nat → Prop}
theorem ww_0 : (WW a cB cI cJ cG I F O)[0]? = some (a 0, .inr (6, [.ref (a 1), .ref (a 19), .ref (a 17), .ref (a 18), .ref (a 30), .int (I 0), .int (I 1)])) := rfl
theorem ww_1 : (WW a cB cI cJ cG I F O)[1]? = some (a 1, .inr (0, [.ref (a 2), .int (I 2)])) := rfl
theorem ww_2 : (WW a cB cI cJ cG I F O)[2]? = some (a 2, .inl (cB, 65536, .inl (F 2))) := rfl
theorem ww_3 : (WW a cB cI cJ cG I F O)[3]? = some (a 3, .inr (0, [.ref (a 4), .int (I 3)])) := rfl
theorem ww_4 : (WW a cB cI cJ cG I F O)[4]? = some (a 4, .inl (cB, 65536, .inl (F 4))) := rfl
theorem ww_5 : (WW a cB cI cJ cG I F O)[5]? = some (a 5, .inl (cI, 1100, .inl (F 5))) := rfl
theorem ww_6 : (WW a cB cI cJ cG I F O)[6]? = some (a 6, .inl (cI, 1100, .inl (F 6))) := rfl
theorem ww_7 : (WW a cB cI cJ cG I F O)[7]? = some (a 7, .inl (cI, 1100, .inl (F 7))) := rfl
theorem ww_8 : (WW a cB cI cJ cG I F O)[8]? = some (a 8, .inl (cI, 1100, .inl (F 8))) := rfl
theorem ww_9 : (WW a cB cI cJ cG I F O)[9]? = some (a 9, .inl (cI, 1100, .inl (F 9))) := rfl
theorem ww_10 : (WW a cB cI cJ cG I F O)[10]? = some (a 10, .inl (cI, 1100, .inl (F 10))) := rfl
theorem ww_11 : (WW a cB cI cJ cG I F O)[11]? = some (a 11, .inl (cG, 4, .inr (.inr (.inr (.inr (fun i => if i < 4 then some (a (12 + i)) else none)))))) := rfl
theorem ww_12 : (WW a cB cI cJ cG I F O)[12]? = some (a 12, .inl (cI, 1000, .inl (F 12))) := rfl
theorem ww_13 : (WW a cB cI cJ cG I F O)[13]? = some (a 13, .inl (cI, 1000, .inl (F 13))) := rfl
theorem ww_14 : (WW a cB cI cJ cG I F O)[14]? = some (a 14, .inl (cI, 1000, .inl (F 14))) := rfl
theorem ww_15 : (WW a cB cI cJ cG I F O)[15]? = some (a 15, .inl (cI, 1000, .inl (F 15))) := rfl
theorem ww_16 : (WW a cB cI cJ cG I F O)[16]? = some (a 16, .inl (cI, 4, .inl (F 16))) := rfl
theorem ww_17 : (WW a cB cI cJ cG I F O)[17]? = some (a 17, .inr (4, [.ref (a 1), .ref (a 19), .int (I 4), .int (I 5), .int (I 6), .int (I 7), .int (I 8), .int (I 9)])) := rfl
theorem ww_18 : (WW a cB cI cJ cG I F O)[18]? = some (a 18, .inr (5, [.ref (a 19), .ref (a 20), .ref (a 24), .ref (a 22), .ref (a 23), .int (I 10)])) := rfl
theorem ww_19 : (WW a cB cI cJ cG I F O)[19]? = some (a 19, .inr (2, [.ref (a 3), .ref (a 5), .ref (a 6), .ref (a 7), .ref (a 8), .ref (a 9), .ref (a 10), .ref (a 11), .ref (a 16), .int (I 11), .int (I 12)])) := rfl
theorem ww_20 : (WW a cB cI cJ cG I F O)[20]? = some (a 20, .inr (0, [.ref (a 21), .int (I 13)])) := rfl
theorem ww_21 : (WW a cB cI cJ cG I F O)[21]? = some (a 21, .inl (cB, 65536, .inl (F 21))) := rfl
theorem ww_22 : (WW a cB cI cJ cG I F O)[22]? = some (a 22, .inl (cI, 127, .inl (F 22))) := rfl
theorem ww_23 : (WW a cB cI cJ cG I F O)[23]? = some (a 23, .inl (cI, 127, .inl (F 23))) := rfl
theorem ww_24 : (WW a cB cI cJ cG I F O)[24]? = some (a 24, .inr (1, [.ref (a 3), .ref (a 25), .ref (a 26), .ref (a 27), .ref (a 28), .ref (a 29), .int (I 14)])) := rfl
theorem ww_25 : (WW a cB cI cJ cG I F O)[25]? = some (a 25, .inl (cI, 4096, .inl (F 25))) := rfl
theorem ww_26 : (WW a cB cI cJ cG I F O)[26]? = some (a 26, .inl (cI, 8192, .inl (F 26))) := rfl
theorem ww_27 : (WW a cB cI cJ cG I F O)[27]? = some (a 27, .inl (cI, 8192, .inl (F 27))) := rfl
theorem ww_28 : (WW a cB cI cJ cG I F O)[28]? = some (a 28, .inl (cI, 8192, .inl (F 28))) := rfl
theorem ww_29 : (WW a cB cI cJ cG I F O)[29]? = some (a 29, .inl (cI, 8192, .inl (F 29))) := rfl
theorem ww_30 : (WW a cB cI cJ cG I F O)[30]? = some (a 30, .inr (3, [.ref (a 3), .ref (a 31), .ref (a 32)])) := rfl
theorem ww_31 : (WW a cB cI cJ cG I F O)[31]? = some (a 31, .inl (cI, 127, .inl (F 31))) := rfl
theorem ww_32 : (WW a cB cI cJ cG I F O)[32]? = some (a 32, .inl (cI, 127, .inl (F 32))) := rfl
theorem ww_33 : (WW a cB cI cJ cG I F O)[33]? = some (a 33, .inr (7, [.int (I 15), .ref (a 34), .int (I 16), .ref (a 35), .int (I 17), .int (I 18), .int (I 19), .int (I 20), .ref (a 36), .ref (a 37), .ref (a 38), .ref (a 39), .ref (a 40), .ref (a 41), .ref (a 42), .ref (a 43), .int (I 21), .int (I 22), .int (I 23), .int (I 24), .int (I 25), .int (I 26), .int (I 27), .ref (a 44), .int (I 28), .int (I 29), .ref (a 45), .ref (a 46), .int (I 30), .ref (a 47)])) := rfl
theorem ww_34 : (WW a cB cI cJ cG I F O)[34]? = some (a 34, .inl (cB, 65536, .inl (F 34))) := rfl
theorem ww_35 : (WW a cB cI cJ cG I F O)[35]? = some (a 35, .inl (cB, 140000, .inl (F 35))) := rfl
theorem ww_36 : (WW a cB cI cJ cG I F O)[36]? = some (a 36, .inl (cI, 1102, .inl (F 36))) := rfl
theorem ww_37 : (WW a cB cI cJ cG I F O)[37]? = some (a 37, .inl (cI, 1102, .inl (F 37))) := rfl
theorem ww_38 : (WW a cB cI cJ cG I F O)[38]? = some (a 38, .inl (cI, 1102, .inl (F 38))) := rfl
theorem ww_39 : (WW a cB cI cJ cG I F O)[39]? = some (a 39, .inl (cI, 1102, .inl (F 39))) := rfl
theorem ww_40 : (WW a cB cI cJ cG I F O)[40]? = some (a 40, .inl (cI, 1102, .inl (F 40))) := rfl
theorem ww_41 : (WW a cB cI cJ cG I F O)[41]? = some (a 41, .inl (cI, 1102, .inl (F 41))) := rfl
theorem ww_42 : (WW a cB cI cJ cG I F O)[42]? = some (a 42, .inl (cI, 1102, .inl (F 42))) := rfl
theorem ww_43 : (WW a cB cI cJ cG I F O)[43]? = some (a 43, .inl (cI, 1102, .inl (F 43))) := rfl
theorem ww_44 : (WW a cB cI cJ cG I F O)[44]? = some (a 44, .inl (cB, 131200, .inl (F 44))) := rfl
theorem ww_45 : (WW a cB cI cJ cG I F O)[45]? = some (a 45, .inl (cI, 40000, .inl (F 45))) := rfl
theorem ww_46 : (WW a cB cI cJ cG I F O)[46]? = some (a 46, .inl (cI, 40000, .inl (F 46))) := rfl
theorem ww_47 : (WW a cB cI cJ cG I F O)[47]? = some (a 47, .inl (cI, 4, .inl (F 47))) := rfl
theorem ww_48 : (WW a cB cI cJ cG I F O)[48]? = some (a 48, .inl (cJ, 1, .inr (.inl O))) := rfl
theorem ws_0 {v : Int32} : (WW a cB cI cJ cG I F O).set 0 (a 0, .inr (6, ([.ref (a 1), .ref (a 19), .ref (a 17), .ref (a 18), .ref (a 30), .int (I 0), .int (I 1)] : List Value).set 5 (.int v))) = WW a cB cI cJ cG (uf I 0 v) F O := rfl
theorem wp_0 {v : Int32} (h : va_P D cl ((WW a cB cI cJ cG I F O).set 0 (a 0, .inr (6, ([.ref (a 1), .ref (a 19), .ref (a 17), .ref (a 18), .ref (a 30), .int (I 0), .int (I 1)] : List Value).set 5 (.int v)))) H) : va_P D cl (WW a cB cI cJ cG (uf I 0 v) F O) H := h
theorem wd_0 {v : Int32} (h : va_D A ((WW a cB cI cJ cG I F O).set 0 (a 0, .inr (6, ([.ref (a 1), .ref (a 19), .ref (a 17), .ref (a 18), .ref (a 30), .int (I 0), .int (I 1)] : List Value).set 5 (.int v))))) : va_D A (WW a cB cI cJ cG (uf I 0 v) F O) := h
theorem ws_1 {v : Int32} : (WW a cB cI cJ cG I F O).set 0 (a 0, .inr (6, ([.ref (a 1), .ref (a 19), .ref (a 17), .ref (a 18), .ref (a 30), .int (I 0), .int (I 1)] : List Value).set 6 (.int v))) = WW a cB cI cJ cG (uf I 1 v) F O := rfl
theorem wp_1 {v : Int32} (h : va_P D cl ((WW a cB cI cJ cG I F O).set 0 (a 0, .inr (6, ([.ref (a 1), .ref (a 19), .ref (a 17), .ref (a 18), .ref (a 30), .int (I 0), .int (I 1)] : List Value).set 6 (.int v)))) H) : va_P D cl (WW a cB cI cJ cG (uf I 1 v) F O) H := h
theorem wd_1 {v : Int32} (h : va_D A ((WW a cB cI cJ cG I F O).set 0 (a 0, .inr (6, ([.ref (a 1), .ref (a 19), .ref (a 17), .ref (a 18), .ref (a 30), .int (I 0), .int (I 1)] : List Value).set 6 (.int v))))) : va_D A (WW a cB cI cJ cG (uf I 1 v) F O) := h
theorem ws_2 {v : Int32} : (WW a cB cI cJ cG I F O).set 1 (a 1, .inr (0, ([.ref (a 2), .int (I 2)] : List Value).set 1 (.int v))) = WW a cB cI cJ cG (uf I 2 v) F O := rfl
theorem wp_2 {v : Int32} (h : va_P D cl ((WW a cB cI cJ cG I F O).set 1 (a 1, .inr (0, ([.ref (a 2), .int (I 2)] : List Value).set 1 (.int v)))) H) : va_P D cl (WW a cB cI cJ cG (uf I 2 v) F O) H := h
theorem wd_2 {v : Int32} (h : va_D A ((WW a cB cI cJ cG I F O).set 1 (a 1, .inr (0, ([.ref (a 2), .int (I 2)] : List Value).set 1 (.int v))))) : va_D A (WW a cB cI cJ cG (uf I 2 v) F O) := h
theorem ws_3 {v : Int32} : (WW a cB cI cJ cG I F O).set 3 (a 3, .inr (0, ([.ref (a 4), .int (I 3)] : List Value).set 1 (.int v))) = WW a cB cI cJ cG (uf I 3 v) F O := rfl
theorem wp_3 {v : Int32} (h : va_P D cl ((WW a cB cI cJ cG I F O).set 3 (a 3, .inr (0, ([.ref (a 4), .int (I 3)] : List Value).set 1 (.int v)))) H) : va_P D cl (WW a cB cI cJ cG (uf I 3 v) F O) H := h
theorem wd_3 {v : Int32} (h : va_D A ((WW a cB cI cJ cG I F O).set 3 (a 3, .inr (0, ([.ref (a 4), .int (I 3)] : List Value).set 1 (.int v))))) : va_D A (WW a cB cI cJ cG (uf I 3 v) F O) := h
theorem ws_4 {v : Int32} : (WW a cB cI cJ cG I F O).set 17 (a 17, .inr (4, ([.ref (a 1), .ref (a 19), .int (I 4), .int (I 5), .int (I 6), .int (I 7), .int (I 8), .int (I 9)] : List Value).set 2 (.int v))) = WW a cB cI cJ cG (uf I 4 v) F O := rfl
theorem wp_4 {v : Int32} (h : va_P D cl ((WW a cB cI cJ cG I F O).set 17 (a 17, .inr (4, ([.ref (a 1), .ref (a 19), .int (I 4), .int (I 5), .int (I 6), .int (I 7), .int (I 8), .int (I 9)] : List Value).set 2 (.int v)))) H) : va_P D cl (WW a cB cI cJ cG (uf I 4 v) F O) H := h
theorem wd_4 {v : Int32} (h : va_D A ((WW a cB cI cJ cG I F O).set 17 (a 17, .inr (4, ([.ref (a 1), .ref (a 19), .int (I 4), .int (I 5), .int (I 6), .int (I 7), .int (I 8), .int (I 9)] : List Value).set 2 (.int v))))) : va_D A (WW a cB cI cJ cG (uf I 4 v) F O) := h
theorem ws_5 {v : Int32} : (WW a cB cI cJ cG I F O).set 17 (a 17, .inr (4, ([.ref (a 1), .ref (a 19), .int (I 4), .int (I 5), .int (I 6), .int (I 7), .int (I 8), .int (I 9)] : List Value).set 3 (.int v))) = WW a cB cI cJ cG (uf I 5 v) F O := rfl
theorem wp_5 {v : Int32} (h : va_P D cl ((WW a cB cI cJ cG I F O).set 17 (a 17, .inr (4, ([.ref (a 1), .ref (a 19), .int (I 4), .int (I 5), .int (I 6), .int (I 7), .int (I 8), .int (I 9)] : List Value).set 3 (.int v)))) H) : va_P D cl (WW a cB cI cJ cG (uf I 5 v) F O) H := h
theorem wd_5 {v : Int32} (h : va_D A ((WW a cB cI cJ cG I F O).set 17 (a 17, .inr (4, ([.ref (a 1), .ref (a 19), .int (I 4), .int (I 5), .int (I 6), .int (I 7), .int (I 8), .int (I 9)] : List Value).set 3 (.int v))))) : va_D A (WW a cB cI cJ cG (uf I 5 v) F O) := h
theorem ws_6 {v : Int32} : (WW a cB cI cJ cG I F O).set 17 (a 17, .inr (4, ([.ref (a 1), .ref (a 19), .int (I 4), .int (I 5), .int (I 6), .int (I 7), .int (I 8), .int (I 9)] : List Value).set 4 (.int v))) = WW a cB cI cJ cG (uf I 6 v) F O := rfl
theorem wp_6 {v : Int32} (h : va_P D cl ((WW a cB cI cJ cG I F O).set 17 (a 17, .inr (4, ([.ref (a 1), .ref (a 19), .int (I 4), .int (I 5), .int (I 6), .int (I 7), .int (I 8), .int (I 9)] : List Value).set 4 (.int v)))) H) : va_P D cl (WW a cB cI cJ cG (uf I 6 v) F O) H := h
theorem wd_6 {v : Int32} (h : va_D A ((WW a cB cI cJ cG I F O).set 17 (a 17, .inr (4, ([.ref (a 1), .ref (a 19), .int (I 4), .int (I 5), .int (I 6), .int (I 7), .int (I 8), .int (I 9)] : List Value).set 4 (.int v))))) : va_D A (WW a cB cI cJ cG (uf I 6 v) F O) := h
theorem ws_7 {v : Int32} : (WW a cB cI cJ cG I F O).set 17 (a 17, .inr (4, ([.ref (a 1), .ref (a 19), .int (I 4), .int (I 5), .int (I 6), .int (I 7), .int (I 8), .int (I 9)] : List Value).set 5 (.int v))) = WW a cB cI cJ cG (uf I 7 v) F O := rfl
theorem wp_7 {v : Int32} (h : va_P D cl ((WW a cB cI cJ cG I F O).set 17 (a 17, .inr (4, ([.ref (a 1), .ref (a 19), .int (I 4), .int (I 5), .int (I 6), .int (I 7), .int (I 8), .int (I 9)] : List Value).set 5 (.int v)))) H) : va_P D cl (WW a cB cI cJ cG (uf I 7 v) F O) H := h
theorem wd_7 {v : Int32} (h : va_D A ((WW a cB cI cJ cG I F O).set 17 (a 17, .inr (4, ([.ref (a 1), .ref (a 19), .int (I 4), .int (I 5), .int (I 6), .int (I 7), .int (I 8), .int (I 9)] : List Value).set 5 (.int v))))) : va_D A (WW a cB cI cJ cG (uf I 7 v) F O) := h
theorem ws_8 {v : Int32} : (WW a cB cI cJ cG I F O).set 17 (a 17, .inr (4, ([.ref (a 1), .ref (a 19), .int (I 4), .int (I 5), .int (I 6), .int (I 7), .int (I 8), .int (I 9)] : List Value).set 6 (.int v))) = WW a cB cI cJ cG (uf I 8 v) F O := rfl
theorem wp_8 {v : Int32} (h : va_P D cl ((WW a cB cI cJ cG I F O).set 17 (a 17, .inr (4, ([.ref (a 1), .ref (a 19), .int (I 4), .int (I 5), .int (I 6), .int (I 7), .int (I 8), .int (I 9)] : List Value).set 6 (.int v)))) H) : va_P D cl (WW a cB cI cJ cG (uf I 8 v) F O) H := h
theorem wd_8 {v : Int32} (h : va_D A ((WW a cB cI cJ cG I F O).set 17 (a 17, .inr (4, ([.ref (a 1), .ref (a 19), .int (I 4), .int (I 5), .int (I 6), .int (I 7), .int (I 8), .int (I 9)] : List Value).set 6 (.int v))))) : va_D A (WW a cB cI cJ cG (uf I 8 v) F O) := h
theorem ws_9 {v : Int32} : (WW a cB cI cJ cG I F O).set 17 (a 17, .inr (4, ([.ref (a 1), .ref (a 19), .int (I 4), .int (I 5), .int (I 6), .int (I 7), .int (I 8), .int (I 9)] : List Value).set 7 (.int v))) = WW a cB cI cJ cG (uf I 9 v) F O := rfl
theorem wp_9 {v : Int32} (h : va_P D cl ((WW a cB cI cJ cG I F O).set 17 (a 17, .inr (4, ([.ref (a 1), .ref (a 19), .int (I 4), .int (I 5), .int (I 6), .int (I 7), .int (I 8), .int (I 9)] : List Value).set 7 (.int v)))) H) : va_P D cl (WW a cB cI cJ cG (uf I 9 v) F O) H := h
theorem wd_9 {v : Int32} (h : va_D A ((WW a cB cI cJ cG I F O).set 17 (a 17, .inr (4, ([.ref (a 1), .ref (a 19), .int (I 4), .int (I 5), .int (I 6), .int (I 7), .int (I 8), .int (I 9)] : List Value).set 7 (.int v))))) : va_D A (WW a cB cI cJ cG (uf I 9 v) F O) := h
theorem ws_10 {v : Int32} : (WW a cB cI cJ cG I F O).set 18 (a 18, .inr (5, ([.ref (a 19), .ref (a 20), .ref (a 24), .ref (a 22), .ref (a 23), .int (I 10)] : List Value).set 5 (.int v))) = WW a cB cI cJ cG (uf I 10 v) F O := rfl
theorem wp_10 {v : Int32} (h : va_P D cl ((WW a cB cI cJ cG I F O).set 18 (a 18, .inr (5, ([.ref (a 19), .ref (a 20), .ref (a 24), .ref (a 22), .ref (a 23), .int (I 10)] : List Value).set 5 (.int v)))) H) : va_P D cl (WW a cB cI cJ cG (uf I 10 v) F O) H := h
theorem wd_10 {v : Int32} (h : va_D A ((WW a cB cI cJ cG I F O).set 18 (a 18, .inr (5, ([.ref (a 19), .ref (a 20), .ref (a 24), .ref (a 22), .ref (a 23), .int (I 10)] : List Value).set 5 (.int v))))) : va_D A (WW a cB cI cJ cG (uf I 10 v) F O) := h
theorem ws_11 {v : Int32} : (WW a cB cI cJ cG I F O).set 19 (a 19, .inr (2, ([.ref (a 3), .ref (a 5), .ref (a 6), .ref (a 7), .ref (a 8), .ref (a 9), .ref (a 10), .ref (a 11), .ref (a 16), .int (I 11), .int (I 12)] : List Value).set 9 (.int v))) = WW a cB cI cJ cG (uf I 11 v) F O := rfl
theorem wp_11 {v : Int32} (h : va_P D cl ((WW a cB cI cJ cG I F O).set 19 (a 19, .inr (2, ([.ref (a 3), .ref (a 5), .ref (a 6), .ref (a 7), .ref (a 8), .ref (a 9), .ref (a 10), .ref (a 11), .ref (a 16), .int (I 11), .int (I 12)] : List Value).set 9 (.int v)))) H) : va_P D cl (WW a cB cI cJ cG (uf I 11 v) F O) H := h
theorem wd_11 {v : Int32} (h : va_D A ((WW a cB cI cJ cG I F O).set 19 (a 19, .inr (2, ([.ref (a 3), .ref (a 5), .ref (a 6), .ref (a 7), .ref (a 8), .ref (a 9), .ref (a 10), .ref (a 11), .ref (a 16), .int (I 11), .int (I 12)] : List Value).set 9 (.int v))))) : va_D A (WW a cB cI cJ cG (uf I 11 v) F O) := h
theorem ws_12 {v : Int32} : (WW a cB cI cJ cG I F O).set 19 (a 19, .inr (2, ([.ref (a 3), .ref (a 5), .ref (a 6), .ref (a 7), .ref (a 8), .ref (a 9), .ref (a 10), .ref (a 11), .ref (a 16), .int (I 11), .int (I 12)] : List Value).set 10 (.int v))) = WW a cB cI cJ cG (uf I 12 v) F O := rfl
theorem wp_12 {v : Int32} (h : va_P D cl ((WW a cB cI cJ cG I F O).set 19 (a 19, .inr (2, ([.ref (a 3), .ref (a 5), .ref (a 6), .ref (a 7), .ref (a 8), .ref (a 9), .ref (a 10), .ref (a 11), .ref (a 16), .int (I 11), .int (I 12)] : List Value).set 10 (.int v)))) H) : va_P D cl (WW a cB cI cJ cG (uf I 12 v) F O) H := h
theorem wd_12 {v : Int32} (h : va_D A ((WW a cB cI cJ cG I F O).set 19 (a 19, .inr (2, ([.ref (a 3), .ref (a 5), .ref (a 6), .ref (a 7), .ref (a 8), .ref (a 9), .ref (a 10), .ref (a 11), .ref (a 16), .int (I 11), .int (I 12)] : List Value).set 10 (.int v))))) : va_D A (WW a cB cI cJ cG (uf I 12 v) F O) := h
theorem ws_13 {v : Int32} : (WW a cB cI cJ cG I F O).set 20 (a 20, .inr (0, ([.ref (a 21), .int (I 13)] : List Value).set 1 (.int v))) = WW a cB cI cJ cG (uf I 13 v) F O := rfl
theorem wp_13 {v : Int32} (h : va_P D cl ((WW a cB cI cJ cG I F O).set 20 (a 20, .inr (0, ([.ref (a 21), .int (I 13)] : List Value).set 1 (.int v)))) H) : va_P D cl (WW a cB cI cJ cG (uf I 13 v) F O) H := h
theorem wd_13 {v : Int32} (h : va_D A ((WW a cB cI cJ cG I F O).set 20 (a 20, .inr (0, ([.ref (a 21), .int (I 13)] : List Value).set 1 (.int v))))) : va_D A (WW a cB cI cJ cG (uf I 13 v) F O) := h
theorem ws_14 {v : Int32} : (WW a cB cI cJ cG I F O).set 24 (a 24, .inr (1, ([.ref (a 3), .ref (a 25), .ref (a 26), .ref (a 27), .ref (a 28), .ref (a 29), .int (I 14)] : List Value).set 6 (.int v))) = WW a cB cI cJ cG (uf I 14 v) F O := rfl
theorem wp_14 {v : Int32} (h : va_P D cl ((WW a cB cI cJ cG I F O).set 24 (a 24, .inr (1, ([.ref (a 3), .ref (a 25), .ref (a 26), .ref (a 27), .ref (a 28), .ref (a 29), .int (I 14)] : List Value).set 6 (.int v)))) H) : va_P D cl (WW a cB cI cJ cG (uf I 14 v) F O) H := h
theorem wd_14 {v : Int32} (h : va_D A ((WW a cB cI cJ cG I F O).set 24 (a 24, .inr (1, ([.ref (a 3), .ref (a 25), .ref (a 26), .ref (a 27), .ref (a 28), .ref (a 29), .int (I 14)] : List Value).set 6 (.int v))))) : va_D A (WW a cB cI cJ cG (uf I 14 v) F O) := h
theorem ws_15 {v : Int32} : (WW a cB cI cJ cG I F O).set 33 (a 33, .inr (7, ([.int (I 15), .ref (a 34), .int (I 16), .ref (a 35), .int (I 17), .int (I 18), .int (I 19), .int (I 20), .ref (a 36), .ref (a 37), .ref (a 38), .ref (a 39), .ref (a 40), .ref (a 41), .ref (a 42), .ref (a 43), .int (I 21), .int (I 22), .int (I 23), .int (I 24), .int (I 25), .int (I 26), .int (I 27), .ref (a 44), .int (I 28), .int (I 29), .ref (a 45), .ref (a 46), .int (I 30), .ref (a 47)] : List Value).set 0 (.int v))) = WW a cB cI cJ cG (uf I 15 v) F O := rfl
theorem wp_15 {v : Int32} (h : va_P D cl ((WW a cB cI cJ cG I F O).set 33 (a 33, .inr (7, ([.int (I 15), .ref (a 34), .int (I 16), .ref (a 35), .int (I 17), .int (I 18), .int (I 19), .int (I 20), .ref (a 36), .ref (a 37), .ref (a 38), .ref (a 39), .ref (a 40), .ref (a 41), .ref (a 42), .ref (a 43), .int (I 21), .int (I 22), .int (I 23), .int (I 24), .int (I 25), .int (I 26), .int (I 27), .ref (a 44), .int (I 28), .int (I 29), .ref (a 45), .ref (a 46), .int (I 30), .ref (a 47)] : List Value).set 0 (.int v)))) H) : va_P D cl (WW a cB cI cJ cG (uf I 15 v) F O) H := h
theorem wd_15 {v : Int32} (h : va_D A ((WW a cB cI cJ cG I F O).set 33 (a 33, .inr (7, ([.int (I 15), .ref (a 34), .int (I 16), .ref (a 35), .int (I 17), .int (I 18), .int (I 19), .int (I 20), .ref (a 36), .ref (a 37), .ref (a 38), .ref (a 39), .ref (a 40), .ref (a 41), .ref (a 42), .ref (a 43), .int (I 21), .int (I 22), .int (I 23), .int (I 24), .int (I 25), .int (I 26), .int (I 27), .ref (a 44), .int (I 28), .int (I 29), .ref (a 45), .ref (a 46), .int (I 30), .ref (a 47)] : List Value).set 0 (.int v))))) : va_D A (WW a cB cI cJ cG (uf I 15 v) F O) := h
theorem ws_16 {v : Int32} : (WW a cB cI cJ cG I F O).set 33 (a 33, .inr (7, ([.int (I 15), .ref (a 34), .int (I 16), .ref (a 35), .int (I 17), .int (I 18), .int (I 19), .int (I 20), .ref (a 36), .ref (a 37), .ref (a 38), .ref (a 39), .ref (a 40), .ref (a 41), .ref (a 42), .ref (a 43), .int (I 21), .int (I 22), .int (I 23), .int (I 24), .int (I 25), .int (I 26), .int (I 27), .ref (a 44), .int (I 28), .int (I 29), .ref (a 45), .ref (a 46), .int (I 30), .ref (a 47)] : List Value).set 2 (.int v))) = WW a cB cI cJ cG (uf I 16 v) F O := rfl
theorem wp_16 {v : Int32} (h : va_P D cl ((WW a cB cI cJ cG I F O).set 33 (a 33, .inr (7, ([.int (I 15), .ref (a 34), .int (I 16), .ref (a 35), .int (I 17), .int (I 18), .int (I 19), .int (I 20), .ref (a 36), .ref (a 37), .ref (a 38), .ref (a 39), .ref (a 40), .ref (a 41), .ref (a 42), .ref (a 43), .int (I 21), .int (I 22), .int (I 23), .int (I 24), .int (I 25), .int (I 26), .int (I 27), .ref (a 44), .int (I 28), .int (I 29), .ref (a 45), .ref (a 46), .int (I 30), .ref (a 47)] : List Value).set 2 (.int v)))) H) : va_P D cl (WW a cB cI cJ cG (uf I 16 v) F O) H := h
theorem wd_16 {v : Int32} (h : va_D A ((WW a cB cI cJ cG I F O).set 33 (a 33, .inr (7, ([.int (I 15), .ref (a 34), .int (I 16), .ref (a 35), .int (I 17), .int (I 18), .int (I 19), .int (I 20), .ref (a 36), .ref (a 37), .ref (a 38), .ref (a 39), .ref (a 40), .ref (a 41), .ref (a 42), .ref (a 43), .int (I 21), .int (I 22), .int (I 23), .int (I 24), .int (I 25), .int (I 26), .int (I 27), .ref (a 44), .int (I 28), .int (I 29), .ref (a 45), .ref (a 46), .int (I 30), .ref (a 47)] : List Value).set 2 (.int v))))) : va_D A (WW a cB cI cJ cG (uf I 16 v) F O) := h
theorem ws_17 {v : Int32} : (WW a cB cI cJ cG I F O).set 33 (a 33, .inr (7, ([.int (I 15), .ref (a 34), .int (I 16), .ref (a 35), .int (I 17), .int (I 18), .int (I 19), .int (I 20), .ref (a 36), .ref (a 37), .ref (a 38), .ref (a 39), .ref (a 40), .ref (a 41), .ref (a 42), .ref (a 43), .int (I 21), .int (I 22), .int (I 23), .int (I 24), .int (I 25), .int (I 26), .int (I 27), .ref (a 44), .int (I 28), .int (I 29), .ref (a 45), .ref (a 46), .int (I 30), .ref (a 47)] : List Value).set 4 (.int v))) = WW a cB cI cJ cG (uf I 17 v) F O := rfl
theorem wp_17 {v : Int32} (h : va_P D cl ((WW a cB cI cJ cG I F O).set 33 (a 33, .inr (7, ([.int (I 15), .ref (a 34), .int (I 16), .ref (a 35), .int (I 17), .int (I 18), .int (I 19), .int (I 20), .ref (a 36), .ref (a 37), .ref (a 38), .ref (a 39), .ref (a 40), .ref (a 41), .ref (a 42), .ref (a 43), .int (I 21), .int (I 22), .int (I 23), .int (I 24), .int (I 25), .int (I 26), .int (I 27), .ref (a 44), .int (I 28), .int (I 29), .ref (a 45), .ref (a 46), .int (I 30), .ref (a 47)] : List Value).set 4 (.int v)))) H) : va_P D cl (WW a cB cI cJ cG (uf I 17 v) F O) H := h
theorem wd_17 {v : Int32} (h : va_D A ((WW a cB cI cJ cG I F O).set 33 (a 33, .inr (7, ([.int (I 15), .ref (a 34), .int (I 16), .ref (a 35), .int (I 17), .int (I 18), .int (I 19), .int (I 20), .ref (a 36), .ref (a 37), .ref (a 38), .ref (a 39), .ref (a 40), .ref (a 41), .ref (a 42), .ref (a 43), .int (I 21), .int (I 22), .int (I 23), .int (I 24), .int (I 25), .int (I 26), .int (I 27), .ref (a 44), .int (I 28), .int (I 29), .ref (a 45), .ref (a 46), .int (I 30), .ref (a 47)] : List Value).set 4 (.int v))))) : va_D A (WW a cB cI cJ cG (uf I 17 v) F O) := h
theorem ws_18 {v : Int32} : (WW a cB cI cJ cG I F O).set 33 (a 33, .inr (7, ([.int (I 15), .ref (a 34), .int (I 16), .ref (a 35), .int (I 17), .int (I 18), .int (I 19), .int (I 20), .ref (a 36), .ref (a 37), .ref (a 38), .ref (a 39), .ref (a 40), .ref (a 41), .ref (a 42), .ref (a 43), .int (I 21), .int (I 22), .int (I 23), .int (I 24), .int (I 25), .int (I 26), .int (I 27), .ref (a 44), .int (I 28), .int (I 29), .ref (a 45), .ref (a 46), .int (I 30), .ref (a 47)] : List Value).set 5 (.int v))) = WW a cB cI cJ cG (uf I 18 v) F O := rfl
theorem wp_18 {v : Int32} (h : va_P D cl ((WW a cB cI cJ cG I F O).set 33 (a 33, .inr (7, ([.int (I 15), .ref (a 34), .int (I 16), .ref (a 35), .int (I 17), .int (I 18), .int (I 19), .int (I 20), .ref (a 36), .ref (a 37), .ref (a 38), .ref (a 39), .ref (a 40), .ref (a 41), .ref (a 42), .ref (a 43), .int (I 21), .int (I 22), .int (I 23), .int (I 24), .int (I 25), .int (I 26), .int (I 27), .ref (a 44), .int (I 28), .int (I 29), .ref (a 45), .ref (a 46), .int (I 30), .ref (a 47)] : List Value).set 5 (.int v)))) H) : va_P D cl (WW a cB cI cJ cG (uf I 18 v) F O) H := h
theorem wd_18 {v : Int32} (h : va_D A ((WW a cB cI cJ cG I F O).set 33 (a 33, .inr (7, ([.int (I 15), .ref (a 34), .int (I 16), .ref (a 35), .int (I 17), .int (I 18), .int (I 19), .int (I 20), .ref (a 36), .ref (a 37), .ref (a 38), .ref (a 39), .ref (a 40), .ref (a 41), .ref (a 42), .ref (a 43), .int (I 21), .int (I 22), .int (I 23), .int (I 24), .int (I 25), .int (I 26), .int (I 27), .ref (a 44), .int (I 28), .int (I 29), .ref (a 45), .ref (a 46), .int (I 30), .ref (a 47)] : List Value).set 5 (.int v))))) : va_D A (WW a cB cI cJ cG (uf I 18 v) F O) := h
theorem ws_19 {v : Int32} : (WW a cB cI cJ cG I F O).set 33 (a 33, .inr (7, ([.int (I 15), .ref (a 34), .int (I 16), .ref (a 35), .int (I 17), .int (I 18), .int (I 19), .int (I 20), .ref (a 36), .ref (a 37), .ref (a 38), .ref (a 39), .ref (a 40), .ref (a 41), .ref (a 42), .ref (a 43), .int (I 21), .int (I 22), .int (I 23), .int (I 24), .int (I 25), .int (I 26), .int (I 27), .ref (a 44), .int (I 28), .int (I 29), .ref (a 45), .ref (a 46), .int (I 30), .ref (a 47)] : List Value).set 6 (.int v))) = WW a cB cI cJ cG (uf I 19 v) F O := rfl
theorem wp_19 {v : Int32} (h : va_P D cl ((WW a cB cI cJ cG I F O).set 33 (a 33, .inr (7, ([.int (I 15), .ref (a 34), .int (I 16), .ref (a 35), .int (I 17), .int (I 18), .int (I 19), .int (I 20), .ref (a 36), .ref (a 37), .ref (a 38), .ref (a 39), .ref (a 40), .ref (a 41), .ref (a 42), .ref (a 43), .int (I 21), .int (I 22), .int (I 23), .int (I 24), .int (I 25), .int (I 26), .int (I 27), .ref (a 44), .int (I 28), .int (I 29), .ref (a 45), .ref (a 46), .int (I 30), .ref (a 47)] : List Value).set 6 (.int v)))) H) : va_P D cl (WW a cB cI cJ cG (uf I 19 v) F O) H := h
theorem wd_19 {v : Int32} (h : va_D A ((WW a cB cI cJ cG I F O).set 33 (a 33, .inr (7, ([.int (I 15), .ref (a 34), .int (I 16), .ref (a 35), .int (I 17), .int (I 18), .int (I 19), .int (I 20), .ref (a 36), .ref (a 37), .ref (a 38), .ref (a 39), .ref (a 40), .ref (a 41), .ref (a 42), .ref (a 43), .int (I 21), .int (I 22), .int (I 23), .int (I 24), .int (I 25), .int (I 26), .int (I 27), .ref (a 44), .int (I 28), .int (I 29), .ref (a 45), .ref (a 46), .int (I 30), .ref (a 47)] : List Value).set 6 (.int v))))) : va_D A (WW a cB cI cJ cG (uf I 19 v) F O) := h
theorem ws_20 {v : Int32} : (WW a cB cI cJ cG I F O).set 33 (a 33, .inr (7, ([.int (I 15), .ref (a 34), .int (I 16), .ref (a 35), .int (I 17), .int (I 18), .int (I 19), .int (I 20), .ref (a 36), .ref (a 37), .ref (a 38), .ref (a 39), .ref (a 40), .ref (a 41), .ref (a 42), .ref (a 43), .int (I 21), .int (I 22), .int (I 23), .int (I 24), .int (I 25), .int (I 26), .int (I 27), .ref (a 44), .int (I 28), .int (I 29), .ref (a 45), .ref (a 46), .int (I 30), .ref (a 47)] : List Value).set 7 (.int v))) = WW a cB cI cJ cG (uf I 20 v) F O := rfl
theorem wp_20 {v : Int32} (h : va_P D cl ((WW a cB cI cJ cG I F O).set 33 (a 33, .inr (7, ([.int (I 15), .ref (a 34), .int (I 16), .ref (a 35), .int (I 17), .int (I 18), .int (I 19), .int (I 20), .ref (a 36), .ref (a 37), .ref (a 38), .ref (a 39), .ref (a 40), .ref (a 41), .ref (a 42), .ref (a 43), .int (I 21), .int (I 22), .int (I 23), .int (I 24), .int (I 25), .int (I 26), .int (I 27), .ref (a 44), .int (I 28), .int (I 29), .ref (a 45), .ref (a 46), .int (I 30), .ref (a 47)] : List Value).set 7 (.int v)))) H) : va_P D cl (WW a cB cI cJ cG (uf I 20 v) F O) H := h
theorem wd_20 {v : Int32} (h : va_D A ((WW a cB cI cJ cG I F O).set 33 (a 33, .inr (7, ([.int (I 15), .ref (a 34), .int (I 16), .ref (a 35), .int (I 17), .int (I 18), .int (I 19), .int (I 20), .ref (a 36), .ref (a 37), .ref (a 38), .ref (a 39), .ref (a 40), .ref (a 41), .ref (a 42), .ref (a 43), .int (I 21), .int (I 22), .int (I 23), .int (I 24), .int (I 25), .int (I 26), .int (I 27), .ref (a 44), .int (I 28), .int (I 29), .ref (a 45), .ref (a 46), .int (I 30), .ref (a 47)] : List Value).set 7 (.int v))))) : va_D A (WW a cB cI cJ cG (uf I 20 v) F O) := h
theorem ws_21 {v : Int32} : (WW a cB cI cJ cG I F O).set 33 (a 33, .inr (7, ([.int (I 15), .ref (a 34), .int (I 16), .ref (a 35), .int (I 17), .int (I 18), .int (I 19), .int (I 20), .ref (a 36), .ref (a 37), .ref (a 38), .ref (a 39), .ref (a 40), .ref (a 41), .ref (a 42), .ref (a 43), .int (I 21), .int (I 22), .int (I 23), .int (I 24), .int (I 25), .int (I 26), .int (I 27), .ref (a 44), .int (I 28), .int (I 29), .ref (a 45), .ref (a 46), .int (I 30), .ref (a 47)] : List Value).set 16 (.int v))) = WW a cB cI cJ cG (uf I 21 v) F O := rfl
theorem wp_21 {v : Int32} (h : va_P D cl ((WW a cB cI cJ cG I F O).set 33 (a 33, .inr (7, ([.int (I 15), .ref (a 34), .int (I 16), .ref (a 35), .int (I 17), .int (I 18), .int (I 19), .int (I 20), .ref (a 36), .ref (a 37), .ref (a 38), .ref (a 39), .ref (a 40), .ref (a 41), .ref (a 42), .ref (a 43), .int (I 21), .int (I 22), .int (I 23), .int (I 24), .int (I 25), .int (I 26), .int (I 27), .ref (a 44), .int (I 28), .int (I 29), .ref (a 45), .ref (a 46), .int (I 30), .ref (a 47)] : List Value).set 16 (.int v)))) H) : va_P D cl (WW a cB cI cJ cG (uf I 21 v) F O) H := h
theorem wd_21 {v : Int32} (h : va_D A ((WW a cB cI cJ cG I F O).set 33 (a 33, .inr (7, ([.int (I 15), .ref (a 34), .int (I 16), .ref (a 35), .int (I 17), .int (I 18), .int (I 19), .int (I 20), .ref (a 36), .ref (a 37), .ref (a 38), .ref (a 39), .ref (a 40), .ref (a 41), .ref (a 42), .ref (a 43), .int (I 21), .int (I 22), .int (I 23), .int (I 24), .int (I 25), .int (I 26), .int (I 27), .ref (a 44), .int (I 28), .int (I 29), .ref (a 45), .ref (a 46), .int (I 30), .ref (a 47)] : List Value).set 16 (.int v))))) : va_D A (WW a cB cI cJ cG (uf I 21 v) F O) := h
theorem ws_22 {v : Int32} : (WW a cB cI cJ cG I F O).set 33 (a 33, .inr (7, ([.int (I 15), .ref (a 34), .int (I 16), .ref (a 35), .int (I 17), .int (I 18), .int (I 19), .int (I 20), .ref (a 36), .ref (a 37), .ref (a 38), .ref (a 39), .ref (a 40), .ref (a 41), .ref (a 42), .ref (a 43), .int (I 21), .int (I 22), .int (I 23), .int (I 24), .int (I 25), .int (I 26), .int (I 27), .ref (a 44), .int (I 28), .int (I 29), .ref (a 45), .ref (a 46), .int (I 30), .ref (a 47)] : List Value).set 17 (.int v))) = WW a cB cI cJ cG (uf I 22 v) F O := rfl
theorem wp_22 {v : Int32} (h : va_P D cl ((WW a cB cI cJ cG I F O).set 33 (a 33, .inr (7, ([.int (I 15), .ref (a 34), .int (I 16), .ref (a 35), .int (I 17), .int (I 18), .int (I 19), .int (I 20), .ref (a 36), .ref (a 37), .ref (a 38), .ref (a 39), .ref (a 40), .ref (a 41), .ref (a 42), .ref (a 43), .int (I 21), .int (I 22), .int (I 23), .int (I 24), .int (I 25), .int (I 26), .int (I 27), .ref (a 44), .int (I 28), .int (I 29), .ref (a 45), .ref (a 46), .int (I 30), .ref (a 47)] : List Value).set 17 (.int v)))) H) : va_P D cl (WW a cB cI cJ cG (uf I 22 v) F O) H := h
theorem wd_22 {v : Int32} (h : va_D A ((WW a cB cI cJ cG I F O).set 33 (a 33, .inr (7, ([.int (I 15), .ref (a 34), .int (I 16), .ref (a 35), .int (I 17), .int (I 18), .int (I 19), .int (I 20), .ref (a 36), .ref (a 37), .ref (a 38), .ref (a 39), .ref (a 40), .ref (a 41), .ref (a 42), .ref (a 43), .int (I 21), .int (I 22), .int (I 23), .int (I 24), .int (I 25), .int (I 26), .int (I 27), .ref (a 44), .int (I 28), .int (I 29), .ref (a 45), .ref (a 46), .int (I 30), .ref (a 47)] : List Value).set 17 (.int v))))) : va_D A (WW a cB cI cJ cG (uf I 22 v) F O) := h
theorem ws_23 {v : Int32} : (WW a cB cI cJ cG I F O).set 33 (a 33, .inr (7, ([.int (I 15), .ref (a 34), .int (I 16), .ref (a 35), .int (I 17), .int (I 18), .int (I 19), .int (I 20), .ref (a 36), .ref (a 37), .ref (a 38), .ref (a 39), .ref (a 40), .ref (a 41), .ref (a 42), .ref (a 43), .int (I 21), .int (I 22), .int (I 23), .int (I 24), .int (I 25), .int (I 26), .int (I 27), .ref (a 44), .int (I 28), .int (I 29), .ref (a 45), .ref (a 46), .int (I 30), .ref (a 47)] : List Value).set 18 (.int v))) = WW a cB cI cJ cG (uf I 23 v) F O := rfl
theorem wp_23 {v : Int32} (h : va_P D cl ((WW a cB cI cJ cG I F O).set 33 (a 33, .inr (7, ([.int (I 15), .ref (a 34), .int (I 16), .ref (a 35), .int (I 17), .int (I 18), .int (I 19), .int (I 20), .ref (a 36), .ref (a 37), .ref (a 38), .ref (a 39), .ref (a 40), .ref (a 41), .ref (a 42), .ref (a 43), .int (I 21), .int (I 22), .int (I 23), .int (I 24), .int (I 25), .int (I 26), .int (I 27), .ref (a 44), .int (I 28), .int (I 29), .ref (a 45), .ref (a 46), .int (I 30), .ref (a 47)] : List Value).set 18 (.int v)))) H) : va_P D cl (WW a cB cI cJ cG (uf I 23 v) F O) H := h
theorem wd_23 {v : Int32} (h : va_D A ((WW a cB cI cJ cG I F O).set 33 (a 33, .inr (7, ([.int (I 15), .ref (a 34), .int (I 16), .ref (a 35), .int (I 17), .int (I 18), .int (I 19), .int (I 20), .ref (a 36), .ref (a 37), .ref (a 38), .ref (a 39), .ref (a 40), .ref (a 41), .ref (a 42), .ref (a 43), .int (I 21), .int (I 22), .int (I 23), .int (I 24), .int (I 25), .int (I 26), .int (I 27), .ref (a 44), .int (I 28), .int (I 29), .ref (a 45), .ref (a 46), .int (I 30), .ref (a 47)] : List Value).set 18 (.int v))))) : va_D A (WW a cB cI cJ cG (uf I 23 v) F O) := h
theorem ws_24 {v : Int32} : (WW a cB cI cJ cG I F O).set 33 (a 33, .inr (7, ([.int (I 15), .ref (a 34), .int (I 16), .ref (a 35), .int (I 17), .int (I 18), .int (I 19), .int (I 20), .ref (a 36), .ref (a 37), .ref (a 38), .ref (a 39), .ref (a 40), .ref (a 41), .ref (a 42), .ref (a 43), .int (I 21), .int (I 22), .int (I 23), .int (I 24), .int (I 25), .int (I 26), .int (I 27), .ref (a 44), .int (I 28), .int (I 29), .ref (a 45), .ref (a 46), .int (I 30), .ref (a 47)] : List Value).set 19 (.int v))) = WW a cB cI cJ cG (uf I 24 v) F O := rfl
theorem wp_24 {v : Int32} (h : va_P D cl ((WW a cB cI cJ cG I F O).set 33 (a 33, .inr (7, ([.int (I 15), .ref (a 34), .int (I 16), .ref (a 35), .int (I 17), .int (I 18), .int (I 19), .int (I 20), .ref (a 36), .ref (a 37), .ref (a 38), .ref (a 39), .ref (a 40), .ref (a 41), .ref (a 42), .ref (a 43), .int (I 21), .int (I 22), .int (I 23), .int (I 24), .int (I 25), .int (I 26), .int (I 27), .ref (a 44), .int (I 28), .int (I 29), .ref (a 45), .ref (a 46), .int (I 30), .ref (a 47)] : List Value).set 19 (.int v)))) H) : va_P D cl (WW a cB cI cJ cG (uf I 24 v) F O) H := h
theorem wd_24 {v : Int32} (h : va_D A ((WW a cB cI cJ cG I F O).set 33 (a 33, .inr (7, ([.int (I 15), .ref (a 34), .int (I 16), .ref (a 35), .int (I 17), .int (I 18), .int (I 19), .int (I 20), .ref (a 36), .ref (a 37), .ref (a 38), .ref (a 39), .ref (a 40), .ref (a 41), .ref (a 42), .ref (a 43), .int (I 21), .int (I 22), .int (I 23), .int (I 24), .int (I 25), .int (I 26), .int (I 27), .ref (a 44), .int (I 28), .int (I 29), .ref (a 45), .ref (a 46), .int (I 30), .ref (a 47)] : List Value).set 19 (.int v))))) : va_D A (WW a cB cI cJ cG (uf I 24 v) F O) := h
theorem ws_25 {v : Int32} : (WW a cB cI cJ cG I F O).set 33 (a 33, .inr (7, ([.int (I 15), .ref (a 34), .int (I 16), .ref (a 35), .int (I 17), .int (I 18), .int (I 19), .int (I 20), .ref (a 36), .ref (a 37), .ref (a 38), .ref (a 39), .ref (a 40), .ref (a 41), .ref (a 42), .ref (a 43), .int (I 21), .int (I 22), .int (I 23), .int (I 24), .int (I 25), .int (I 26), .int (I 27), .ref (a 44), .int (I 28), .int (I 29), .ref (a 45), .ref (a 46), .int (I 30), .ref (a 47)] : List Value).set 20 (.int v))) = WW a cB cI cJ cG (uf I 25 v) F O := rfl
theorem wp_25 {v : Int32} (h : va_P D cl ((WW a cB cI cJ cG I F O).set 33 (a 33, .inr (7, ([.int (I 15), .ref (a 34), .int (I 16), .ref (a 35), .int (I 17), .int (I 18), .int (I 19), .int (I 20), .ref (a 36), .ref (a 37), .ref (a 38), .ref (a 39), .ref (a 40), .ref (a 41), .ref (a 42), .ref (a 43), .int (I 21), .int (I 22), .int (I 23), .int (I 24), .int (I 25), .int (I 26), .int (I 27), .ref (a 44), .int (I 28), .int (I 29), .ref (a 45), .ref (a 46), .int (I 30), .ref (a 47)] : List Value).set 20 (.int v)))) H) : va_P D cl (WW a cB cI cJ cG (uf I 25 v) F O) H := h
theorem wd_25 {v : Int32} (h : va_D A ((WW a cB cI cJ cG I F O).set 33 (a 33, .inr (7, ([.int (I 15), .ref (a 34), .int (I 16), .ref (a 35), .int (I 17), .int (I 18), .int (I 19), .int (I 20), .ref (a 36), .ref (a 37), .ref (a 38), .ref (a 39), .ref (a 40), .ref (a 41), .ref (a 42), .ref (a 43), .int (I 21), .int (I 22), .int (I 23), .int (I 24), .int (I 25), .int (I 26), .int (I 27), .ref (a 44), .int (I 28), .int (I 29), .ref (a 45), .ref (a 46), .int (I 30), .ref (a 47)] : List Value).set 20 (.int v))))) : va_D A (WW a cB cI cJ cG (uf I 25 v) F O) := h
theorem ws_26 {v : Int32} : (WW a cB cI cJ cG I F O).set 33 (a 33, .inr (7, ([.int (I 15), .ref (a 34), .int (I 16), .ref (a 35), .int (I 17), .int (I 18), .int (I 19), .int (I 20), .ref (a 36), .ref (a 37), .ref (a 38), .ref (a 39), .ref (a 40), .ref (a 41), .ref (a 42), .ref (a 43), .int (I 21), .int (I 22), .int (I 23), .int (I 24), .int (I 25), .int (I 26), .int (I 27), .ref (a 44), .int (I 28), .int (I 29), .ref (a 45), .ref (a 46), .int (I 30), .ref (a 47)] : List Value).set 21 (.int v))) = WW a cB cI cJ cG (uf I 26 v) F O := rfl
theorem wp_26 {v : Int32} (h : va_P D cl ((WW a cB cI cJ cG I F O).set 33 (a 33, .inr (7, ([.int (I 15), .ref (a 34), .int (I 16), .ref (a 35), .int (I 17), .int (I 18), .int (I 19), .int (I 20), .ref (a 36), .ref (a 37), .ref (a 38), .ref (a 39), .ref (a 40), .ref (a 41), .ref (a 42), .ref (a 43), .int (I 21), .int (I 22), .int (I 23), .int (I 24), .int (I 25), .int (I 26), .int (I 27), .ref (a 44), .int (I 28), .int (I 29), .ref (a 45), .ref (a 46), .int (I 30), .ref (a 47)] : List Value).set 21 (.int v)))) H) : va_P D cl (WW a cB cI cJ cG (uf I 26 v) F O) H := h
theorem wd_26 {v : Int32} (h : va_D A ((WW a cB cI cJ cG I F O).set 33 (a 33, .inr (7, ([.int (I 15), .ref (a 34), .int (I 16), .ref (a 35), .int (I 17), .int (I 18), .int (I 19), .int (I 20), .ref (a 36), .ref (a 37), .ref (a 38), .ref (a 39), .ref (a 40), .ref (a 41), .ref (a 42), .ref (a 43), .int (I 21), .int (I 22), .int (I 23), .int (I 24), .int (I 25), .int (I 26), .int (I 27), .ref (a 44), .int (I 28), .int (I 29), .ref (a 45), .ref (a 46), .int (I 30), .ref (a 47)] : List Value).set 21 (.int v))))) : va_D A (WW a cB cI cJ cG (uf I 26 v) F O) := h
theorem ws_27 {v : Int32} : (WW a cB cI cJ cG I F O).set 33 (a 33, .inr (7, ([.int (I 15), .ref (a 34), .int (I 16), .ref (a 35), .int (I 17), .int (I 18), .int (I 19), .int (I 20), .ref (a 36), .ref (a 37), .ref (a 38), .ref (a 39), .ref (a 40), .ref (a 41), .ref (a 42), .ref (a 43), .int (I 21), .int (I 22), .int (I 23), .int (I 24), .int (I 25), .int (I 26), .int (I 27), .ref (a 44), .int (I 28), .int (I 29), .ref (a 45), .ref (a 46), .int (I 30), .ref (a 47)] : List Value).set 22 (.int v))) = WW a cB cI cJ cG (uf I 27 v) F O := rfl
theorem wp_27 {v : Int32} (h : va_P D cl ((WW a cB cI cJ cG I F O).set 33 (a 33, .inr (7, ([.int (I 15), .ref (a 34), .int (I 16), .ref (a 35), .int (I 17), .int (I 18), .int (I 19), .int (I 20), .ref (a 36), .ref (a 37), .ref (a 38), .ref (a 39), .ref (a 40), .ref (a 41), .ref (a 42), .ref (a 43), .int (I 21), .int (I 22), .int (I 23), .int (I 24), .int (I 25), .int (I 26), .int (I 27), .ref (a 44), .int (I 28), .int (I 29), .ref (a 45), .ref (a 46), .int (I 30), .ref (a 47)] : List Value).set 22 (.int v)))) H) : va_P D cl (WW a cB cI cJ cG (uf I 27 v) F O) H := h
theorem wd_27 {v : Int32} (h : va_D A ((WW a cB cI cJ cG I F O).set 33 (a 33, .inr (7, ([.int (I 15), .ref (a 34), .int (I 16), .ref (a 35), .int (I 17), .int (I 18), .int (I 19), .int (I 20), .ref (a 36), .ref (a 37), .ref (a 38), .ref (a 39), .ref (a 40), .ref (a 41), .ref (a 42), .ref (a 43), .int (I 21), .int (I 22), .int (I 23), .int (I 24), .int (I 25), .int (I 26), .int (I 27), .ref (a 44), .int (I 28), .int (I 29), .ref (a 45), .ref (a 46), .int (I 30), .ref (a 47)] : List Value).set 22 (.int v))))) : va_D A (WW a cB cI cJ cG (uf I 27 v) F O) := h
theorem ws_28 {v : Int32} : (WW a cB cI cJ cG I F O).set 33 (a 33, .inr (7, ([.int (I 15), .ref (a 34), .int (I 16), .ref (a 35), .int (I 17), .int (I 18), .int (I 19), .int (I 20), .ref (a 36), .ref (a 37), .ref (a 38), .ref (a 39), .ref (a 40), .ref (a 41), .ref (a 42), .ref (a 43), .int (I 21), .int (I 22), .int (I 23), .int (I 24), .int (I 25), .int (I 26), .int (I 27), .ref (a 44), .int (I 28), .int (I 29), .ref (a 45), .ref (a 46), .int (I 30), .ref (a 47)] : List Value).set 24 (.int v))) = WW a cB cI cJ cG (uf I 28 v) F O := rfl
theorem wp_28 {v : Int32} (h : va_P D cl ((WW a cB cI cJ cG I F O).set 33 (a 33, .inr (7, ([.int (I 15), .ref (a 34), .int (I 16), .ref (a 35), .int (I 17), .int (I 18), .int (I 19), .int (I 20), .ref (a 36), .ref (a 37), .ref (a 38), .ref (a 39), .ref (a 40), .ref (a 41), .ref (a 42), .ref (a 43), .int (I 21), .int (I 22), .int (I 23), .int (I 24), .int (I 25), .int (I 26), .int (I 27), .ref (a 44), .int (I 28), .int (I 29), .ref (a 45), .ref (a 46), .int (I 30), .ref (a 47)] : List Value).set 24 (.int v)))) H) : va_P D cl (WW a cB cI cJ cG (uf I 28 v) F O) H := h
theorem wd_28 {v : Int32} (h : va_D A ((WW a cB cI cJ cG I F O).set 33 (a 33, .inr (7, ([.int (I 15), .ref (a 34), .int (I 16), .ref (a 35), .int (I 17), .int (I 18), .int (I 19), .int (I 20), .ref (a 36), .ref (a 37), .ref (a 38), .ref (a 39), .ref (a 40), .ref (a 41), .ref (a 42), .ref (a 43), .int (I 21), .int (I 22), .int (I 23), .int (I 24), .int (I 25), .int (I 26), .int (I 27), .ref (a 44), .int (I 28), .int (I 29), .ref (a 45), .ref (a 46), .int (I 30), .ref (a 47)] : List Value).set 24 (.int v))))) : va_D A (WW a cB cI cJ cG (uf I 28 v) F O) := h
theorem ws_29 {v : Int32} : (WW a cB cI cJ cG I F O).set 33 (a 33, .inr (7, ([.int (I 15), .ref (a 34), .int (I 16), .ref (a 35), .int (I 17), .int (I 18), .int (I 19), .int (I 20), .ref (a 36), .ref (a 37), .ref (a 38), .ref (a 39), .ref (a 40), .ref (a 41), .ref (a 42), .ref (a 43), .int (I 21), .int (I 22), .int (I 23), .int (I 24), .int (I 25), .int (I 26), .int (I 27), .ref (a 44), .int (I 28), .int (I 29), .ref (a 45), .ref (a 46), .int (I 30), .ref (a 47)] : List Value).set 25 (.int v))) = WW a cB cI cJ cG (uf I 29 v) F O := rfl
theorem wp_29 {v : Int32} (h : va_P D cl ((WW a cB cI cJ cG I F O).set 33 (a 33, .inr (7, ([.int (I 15), .ref (a 34), .int (I 16), .ref (a 35), .int (I 17), .int (I 18), .int (I 19), .int (I 20), .ref (a 36), .ref (a 37), .ref (a 38), .ref (a 39), .ref (a 40), .ref (a 41), .ref (a 42), .ref (a 43), .int (I 21), .int (I 22), .int (I 23), .int (I 24), .int (I 25), .int (I 26), .int (I 27), .ref (a 44), .int (I 28), .int (I 29), .ref (a 45), .ref (a 46), .int (I 30), .ref (a 47)] : List Value).set 25 (.int v)))) H) : va_P D cl (WW a cB cI cJ cG (uf I 29 v) F O) H := h
theorem wd_29 {v : Int32} (h : va_D A ((WW a cB cI cJ cG I F O).set 33 (a 33, .inr (7, ([.int (I 15), .ref (a 34), .int (I 16), .ref (a 35), .int (I 17), .int (I 18), .int (I 19), .int (I 20), .ref (a 36), .ref (a 37), .ref (a 38), .ref (a 39), .ref (a 40), .ref (a 41), .ref (a 42), .ref (a 43), .int (I 21), .int (I 22), .int (I 23), .int (I 24), .int (I 25), .int (I 26), .int (I 27), .ref (a 44), .int (I 28), .int (I 29), .ref (a 45), .ref (a 46), .int (I 30), .ref (a 47)] : List Value).set 25 (.int v))))) : va_D A (WW a cB cI cJ cG (uf I 29 v) F O) := h
theorem ws_30 {v : Int32} : (WW a cB cI cJ cG I F O).set 33 (a 33, .inr (7, ([.int (I 15), .ref (a 34), .int (I 16), .ref (a 35), .int (I 17), .int (I 18), .int (I 19), .int (I 20), .ref (a 36), .ref (a 37), .ref (a 38), .ref (a 39), .ref (a 40), .ref (a 41), .ref (a 42), .ref (a 43), .int (I 21), .int (I 22), .int (I 23), .int (I 24), .int (I 25), .int (I 26), .int (I 27), .ref (a 44), .int (I 28), .int (I 29), .ref (a 45), .ref (a 46), .int (I 30), .ref (a 47)] : List Value).set 28 (.int v))) = WW a cB cI cJ cG (uf I 30 v) F O := rfl
theorem wp_30 {v : Int32} (h : va_P D cl ((WW a cB cI cJ cG I F O).set 33 (a 33, .inr (7, ([.int (I 15), .ref (a 34), .int (I 16), .ref (a 35), .int (I 17), .int (I 18), .int (I 19), .int (I 20), .ref (a 36), .ref (a 37), .ref (a 38), .ref (a 39), .ref (a 40), .ref (a 41), .ref (a 42), .ref (a 43), .int (I 21), .int (I 22), .int (I 23), .int (I 24), .int (I 25), .int (I 26), .int (I 27), .ref (a 44), .int (I 28), .int (I 29), .ref (a 45), .ref (a 46), .int (I 30), .ref (a 47)] : List Value).set 28 (.int v)))) H) : va_P D cl (WW a cB cI cJ cG (uf I 30 v) F O) H := h
theorem wd_30 {v : Int32} (h : va_D A ((WW a cB cI cJ cG I F O).set 33 (a 33, .inr (7, ([.int (I 15), .ref (a 34), .int (I 16), .ref (a 35), .int (I 17), .int (I 18), .int (I 19), .int (I 20), .ref (a 36), .ref (a 37), .ref (a 38), .ref (a 39), .ref (a 40), .ref (a 41), .ref (a 42), .ref (a 43), .int (I 21), .int (I 22), .int (I 23), .int (I 24), .int (I 25), .int (I 26), .int (I 27), .ref (a 44), .int (I 28), .int (I 29), .ref (a 45), .ref (a 46), .int (I 30), .ref (a 47)] : List Value).set 28 (.int v))))) : va_D A (WW a cB cI cJ cG (uf I 30 v) F O) := h
theorem wsa_2 {f : Nat → Int32} : (WW a cB cI cJ cG I F O).set 2 (a 2, .inl (cB, 65536, .inl (f))) = WW a cB cI cJ cG I (uf F 2 f) O := rfl
theorem wpa_2 {f : Nat → Int32} (h : va_P D cl ((WW a cB cI cJ cG I F O).set 2 (a 2, .inl (cB, 65536, .inl (f)))) H) : va_P D cl (WW a cB cI cJ cG I (uf F 2 f) O) H := h
theorem wda_2 {f : Nat → Int32} (h : va_D A ((WW a cB cI cJ cG I F O).set 2 (a 2, .inl (cB, 65536, .inl (f))))) : va_D A (WW a cB cI cJ cG I (uf F 2 f) O) := h
theorem wsa_4 {f : Nat → Int32} : (WW a cB cI cJ cG I F O).set 4 (a 4, .inl (cB, 65536, .inl (f))) = WW a cB cI cJ cG I (uf F 4 f) O := rfl
theorem wpa_4 {f : Nat → Int32} (h : va_P D cl ((WW a cB cI cJ cG I F O).set 4 (a 4, .inl (cB, 65536, .inl (f)))) H) : va_P D cl (WW a cB cI cJ cG I (uf F 4 f) O) H := h
theorem wda_4 {f : Nat → Int32} (h : va_D A ((WW a cB cI cJ cG I F O).set 4 (a 4, .inl (cB, 65536, .inl (f))))) : va_D A (WW a cB cI cJ cG I (uf F 4 f) O) := h
theorem wsa_5 {f : Nat → Int32} : (WW a cB cI cJ cG I F O).set 5 (a 5, .inl (cI, 1100, .inl (f))) = WW a cB cI cJ cG I (uf F 5 f) O := rfl
theorem wpa_5 {f : Nat → Int32} (h : va_P D cl ((WW a cB cI cJ cG I F O).set 5 (a 5, .inl (cI, 1100, .inl (f)))) H) : va_P D cl (WW a cB cI cJ cG I (uf F 5 f) O) H := h
theorem wda_5 {f : Nat → Int32} (h : va_D A ((WW a cB cI cJ cG I F O).set 5 (a 5, .inl (cI, 1100, .inl (f))))) : va_D A (WW a cB cI cJ cG I (uf F 5 f) O) := h
theorem wsa_6 {f : Nat → Int32} : (WW a cB cI cJ cG I F O).set 6 (a 6, .inl (cI, 1100, .inl (f))) = WW a cB cI cJ cG I (uf F 6 f) O := rfl
theorem wpa_6 {f : Nat → Int32} (h : va_P D cl ((WW a cB cI cJ cG I F O).set 6 (a 6, .inl (cI, 1100, .inl (f)))) H) : va_P D cl (WW a cB cI cJ cG I (uf F 6 f) O) H := h
theorem wda_6 {f : Nat → Int32} (h : va_D A ((WW a cB cI cJ cG I F O).set 6 (a 6, .inl (cI, 1100, .inl (f))))) : va_D A (WW a cB cI cJ cG I (uf F 6 f) O) := h
theorem wsa_7 {f : Nat → Int32} : (WW a cB cI cJ cG I F O).set 7 (a 7, .inl (cI, 1100, .inl (f))) = WW a cB cI cJ cG I (uf F 7 f) O := rfl
theorem wpa_7 {f : Nat → Int32} (h : va_P D cl ((WW a cB cI cJ cG I F O).set 7 (a 7, .inl (cI, 1100, .inl (f)))) H) : va_P D cl (WW a cB cI cJ cG I (uf F 7 f) O) H := h
theorem wda_7 {f : Nat → Int32} (h : va_D A ((WW a cB cI cJ cG I F O).set 7 (a 7, .inl (cI, 1100, .inl (f))))) : va_D A (WW a cB cI cJ cG I (uf F 7 f) O) := h
theorem wsa_8 {f : Nat → Int32} : (WW a cB cI cJ cG I F O).set 8 (a 8, .inl (cI, 1100, .inl (f))) = WW a cB cI cJ cG I (uf F 8 f) O := rfl
theorem wpa_8 {f : Nat → Int32} (h : va_P D cl ((WW a cB cI cJ cG I F O).set 8 (a 8, .inl (cI, 1100, .inl (f)))) H) : va_P D cl (WW a cB cI cJ cG I (uf F 8 f) O) H := h
theorem wda_8 {f : Nat → Int32} (h : va_D A ((WW a cB cI cJ cG I F O).set 8 (a 8, .inl (cI, 1100, .inl (f))))) : va_D A (WW a cB cI cJ cG I (uf F 8 f) O) := h
theorem wsa_9 {f : Nat → Int32} : (WW a cB cI cJ cG I F O).set 9 (a 9, .inl (cI, 1100, .inl (f))) = WW a cB cI cJ cG I (uf F 9 f) O := rfl
theorem wpa_9 {f : Nat → Int32} (h : va_P D cl ((WW a cB cI cJ cG I F O).set 9 (a 9, .inl (cI, 1100, .inl (f)))) H) : va_P D cl (WW a cB cI cJ cG I (uf F 9 f) O) H := h
theorem wda_9 {f : Nat → Int32} (h : va_D A ((WW a cB cI cJ cG I F O).set 9 (a 9, .inl (cI, 1100, .inl (f))))) : va_D A (WW a cB cI cJ cG I (uf F 9 f) O) := h
theorem wsa_10 {f : Nat → Int32} : (WW a cB cI cJ cG I F O).set 10 (a 10, .inl (cI, 1100, .inl (f))) = WW a cB cI cJ cG I (uf F 10 f) O := rfl
theorem wpa_10 {f : Nat → Int32} (h : va_P D cl ((WW a cB cI cJ cG I F O).set 10 (a 10, .inl (cI, 1100, .inl (f)))) H) : va_P D cl (WW a cB cI cJ cG I (uf F 10 f) O) H := h
theorem wda_10 {f : Nat → Int32} (h : va_D A ((WW a cB cI cJ cG I F O).set 10 (a 10, .inl (cI, 1100, .inl (f))))) : va_D A (WW a cB cI cJ cG I (uf F 10 f) O) := h
theorem wsa_12 {f : Nat → Int32} : (WW a cB cI cJ cG I F O).set 12 (a 12, .inl (cI, 1000, .inl (f))) = WW a cB cI cJ cG I (uf F 12 f) O := rfl
theorem wpa_12 {f : Nat → Int32} (h : va_P D cl ((WW a cB cI cJ cG I F O).set 12 (a 12, .inl (cI, 1000, .inl (f)))) H) : va_P D cl (WW a cB cI cJ cG I (uf F 12 f) O) H := h
theorem wda_12 {f : Nat → Int32} (h : va_D A ((WW a cB cI cJ cG I F O).set 12 (a 12, .inl (cI, 1000, .inl (f))))) : va_D A (WW a cB cI cJ cG I (uf F 12 f) O) := h
theorem wsa_13 {f : Nat → Int32} : (WW a cB cI cJ cG I F O).set 13 (a 13, .inl (cI, 1000, .inl (f))) = WW a cB cI cJ cG I (uf F 13 f) O := rfl
theorem wpa_13 {f : Nat → Int32} (h : va_P D cl ((WW a cB cI cJ cG I F O).set 13 (a 13, .inl (cI, 1000, .inl (f)))) H) : va_P D cl (WW a cB cI cJ cG I (uf F 13 f) O) H := h
theorem wda_13 {f : Nat → Int32} (h : va_D A ((WW a cB cI cJ cG I F O).set 13 (a 13, .inl (cI, 1000, .inl (f))))) : va_D A (WW a cB cI cJ cG I (uf F 13 f) O) := h
theorem wsa_14 {f : Nat → Int32} : (WW a cB cI cJ cG I F O).set 14 (a 14, .inl (cI, 1000, .inl (f))) = WW a cB cI cJ cG I (uf F 14 f) O := rfl
theorem wpa_14 {f : Nat → Int32} (h : va_P D cl ((WW a cB cI cJ cG I F O).set 14 (a 14, .inl (cI, 1000, .inl (f)))) H) : va_P D cl (WW a cB cI cJ cG I (uf F 14 f) O) H := h
theorem wda_14 {f : Nat → Int32} (h : va_D A ((WW a cB cI cJ cG I F O).set 14 (a 14, .inl (cI, 1000, .inl (f))))) : va_D A (WW a cB cI cJ cG I (uf F 14 f) O) := h
theorem wsa_15 {f : Nat → Int32} : (WW a cB cI cJ cG I F O).set 15 (a 15, .inl (cI, 1000, .inl (f))) = WW a cB cI cJ cG I (uf F 15 f) O := rfl
theorem wpa_15 {f : Nat → Int32} (h : va_P D cl ((WW a cB cI cJ cG I F O).set 15 (a 15, .inl (cI, 1000, .inl (f)))) H) : va_P D cl (WW a cB cI cJ cG I (uf F 15 f) O) H := h
theorem wda_15 {f : Nat → Int32} (h : va_D A ((WW a cB cI cJ cG I F O).set 15 (a 15, .inl (cI, 1000, .inl (f))))) : va_D A (WW a cB cI cJ cG I (uf F 15 f) O) := h
theorem wsa_16 {f : Nat → Int32} : (WW a cB cI cJ cG I F O).set 16 (a 16, .inl (cI, 4, .inl (f))) = WW a cB cI cJ cG I (uf F 16 f) O := rfl
theorem wpa_16 {f : Nat → Int32} (h : va_P D cl ((WW a cB cI cJ cG I F O).set 16 (a 16, .inl (cI, 4, .inl (f)))) H) : va_P D cl (WW a cB cI cJ cG I (uf F 16 f) O) H := h
theorem wda_16 {f : Nat → Int32} (h : va_D A ((WW a cB cI cJ cG I F O).set 16 (a 16, .inl (cI, 4, .inl (f))))) : va_D A (WW a cB cI cJ cG I (uf F 16 f) O) := h
theorem wsa_21 {f : Nat → Int32} : (WW a cB cI cJ cG I F O).set 21 (a 21, .inl (cB, 65536, .inl (f))) = WW a cB cI cJ cG I (uf F 21 f) O := rfl
theorem wpa_21 {f : Nat → Int32} (h : va_P D cl ((WW a cB cI cJ cG I F O).set 21 (a 21, .inl (cB, 65536, .inl (f)))) H) : va_P D cl (WW a cB cI cJ cG I (uf F 21 f) O) H := h
theorem wda_21 {f : Nat → Int32} (h : va_D A ((WW a cB cI cJ cG I F O).set 21 (a 21, .inl (cB, 65536, .inl (f))))) : va_D A (WW a cB cI cJ cG I (uf F 21 f) O) := h
theorem wsa_22 {f : Nat → Int32} : (WW a cB cI cJ cG I F O).set 22 (a 22, .inl (cI, 127, .inl (f))) = WW a cB cI cJ cG I (uf F 22 f) O := rfl
theorem wpa_22 {f : Nat → Int32} (h : va_P D cl ((WW a cB cI cJ cG I F O).set 22 (a 22, .inl (cI, 127, .inl (f)))) H) : va_P D cl (WW a cB cI cJ cG I (uf F 22 f) O) H := h
theorem wda_22 {f : Nat → Int32} (h : va_D A ((WW a cB cI cJ cG I F O).set 22 (a 22, .inl (cI, 127, .inl (f))))) : va_D A (WW a cB cI cJ cG I (uf F 22 f) O) := h
theorem wsa_23 {f : Nat → Int32} : (WW a cB cI cJ cG I F O).set 23 (a 23, .inl (cI, 127, .inl (f))) = WW a cB cI cJ cG I (uf F 23 f) O := rfl
theorem wpa_23 {f : Nat → Int32} (h : va_P D cl ((WW a cB cI cJ cG I F O).set 23 (a 23, .inl (cI, 127, .inl (f)))) H) : va_P D cl (WW a cB cI cJ cG I (uf F 23 f) O) H := h
theorem wda_23 {f : Nat → Int32} (h : va_D A ((WW a cB cI cJ cG I F O).set 23 (a 23, .inl (cI, 127, .inl (f))))) : va_D A (WW a cB cI cJ cG I (uf F 23 f) O) := h
theorem wsa_25 {f : Nat → Int32} : (WW a cB cI cJ cG I F O).set 25 (a 25, .inl (cI, 4096, .inl (f))) = WW a cB cI cJ cG I (uf F 25 f) O := rfl
theorem wpa_25 {f : Nat → Int32} (h : va_P D cl ((WW a cB cI cJ cG I F O).set 25 (a 25, .inl (cI, 4096, .inl (f)))) H) : va_P D cl (WW a cB cI cJ cG I (uf F 25 f) O) H := h
theorem wda_25 {f : Nat → Int32} (h : va_D A ((WW a cB cI cJ cG I F O).set 25 (a 25, .inl (cI, 4096, .inl (f))))) : va_D A (WW a cB cI cJ cG I (uf F 25 f) O) := h
theorem wsa_26 {f : Nat → Int32} : (WW a cB cI cJ cG I F O).set 26 (a 26, .inl (cI, 8192, .inl (f))) = WW a cB cI cJ cG I (uf F 26 f) O := rfl
theorem wpa_26 {f : Nat → Int32} (h : va_P D cl ((WW a cB cI cJ cG I F O).set 26 (a 26, .inl (cI, 8192, .inl (f)))) H) : va_P D cl (WW a cB cI cJ cG I (uf F 26 f) O) H := h
theorem wda_26 {f : Nat → Int32} (h : va_D A ((WW a cB cI cJ cG I F O).set 26 (a 26, .inl (cI, 8192, .inl (f))))) : va_D A (WW a cB cI cJ cG I (uf F 26 f) O) := h
theorem wsa_27 {f : Nat → Int32} : (WW a cB cI cJ cG I F O).set 27 (a 27, .inl (cI, 8192, .inl (f))) = WW a cB cI cJ cG I (uf F 27 f) O := rfl
theorem wpa_27 {f : Nat → Int32} (h : va_P D cl ((WW a cB cI cJ cG I F O).set 27 (a 27, .inl (cI, 8192, .inl (f)))) H) : va_P D cl (WW a cB cI cJ cG I (uf F 27 f) O) H := h
theorem wda_27 {f : Nat → Int32} (h : va_D A ((WW a cB cI cJ cG I F O).set 27 (a 27, .inl (cI, 8192, .inl (f))))) : va_D A (WW a cB cI cJ cG I (uf F 27 f) O) := h
theorem wsa_28 {f : Nat → Int32} : (WW a cB cI cJ cG I F O).set 28 (a 28, .inl (cI, 8192, .inl (f))) = WW a cB cI cJ cG I (uf F 28 f) O := rfl
theorem wpa_28 {f : Nat → Int32} (h : va_P D cl ((WW a cB cI cJ cG I F O).set 28 (a 28, .inl (cI, 8192, .inl (f)))) H) : va_P D cl (WW a cB cI cJ cG I (uf F 28 f) O) H := h
theorem wda_28 {f : Nat → Int32} (h : va_D A ((WW a cB cI cJ cG I F O).set 28 (a 28, .inl (cI, 8192, .inl (f))))) : va_D A (WW a cB cI cJ cG I (uf F 28 f) O) := h
theorem wsa_29 {f : Nat → Int32} : (WW a cB cI cJ cG I F O).set 29 (a 29, .inl (cI, 8192, .inl (f))) = WW a cB cI cJ cG I (uf F 29 f) O := rfl
theorem wpa_29 {f : Nat → Int32} (h : va_P D cl ((WW a cB cI cJ cG I F O).set 29 (a 29, .inl (cI, 8192, .inl (f)))) H) : va_P D cl (WW a cB cI cJ cG I (uf F 29 f) O) H := h
theorem wda_29 {f : Nat → Int32} (h : va_D A ((WW a cB cI cJ cG I F O).set 29 (a 29, .inl (cI, 8192, .inl (f))))) : va_D A (WW a cB cI cJ cG I (uf F 29 f) O) := h
theorem wsa_31 {f : Nat → Int32} : (WW a cB cI cJ cG I F O).set 31 (a 31, .inl (cI, 127, .inl (f))) = WW a cB cI cJ cG I (uf F 31 f) O := rfl
theorem wpa_31 {f : Nat → Int32} (h : va_P D cl ((WW a cB cI cJ cG I F O).set 31 (a 31, .inl (cI, 127, .inl (f)))) H) : va_P D cl (WW a cB cI cJ cG I (uf F 31 f) O) H := h
theorem wda_31 {f : Nat → Int32} (h : va_D A ((WW a cB cI cJ cG I F O).set 31 (a 31, .inl (cI, 127, .inl (f))))) : va_D A (WW a cB cI cJ cG I (uf F 31 f) O) := h
theorem wsa_32 {f : Nat → Int32} : (WW a cB cI cJ cG I F O).set 32 (a 32, .inl (cI, 127, .inl (f))) = WW a cB cI cJ cG I (uf F 32 f) O := rfl
theorem wpa_32 {f : Nat → Int32} (h : va_P D cl ((WW a cB cI cJ cG I F O).set 32 (a 32, .inl (cI, 127, .inl (f)))) H) : va_P D cl (WW a cB cI cJ cG I (uf F 32 f) O) H := h
theorem wda_32 {f : Nat → Int32} (h : va_D A ((WW a cB cI cJ cG I F O).set 32 (a 32, .inl (cI, 127, .inl (f))))) : va_D A (WW a cB cI cJ cG I (uf F 32 f) O) := h
theorem wsa_34 {f : Nat → Int32} : (WW a cB cI cJ cG I F O).set 34 (a 34, .inl (cB, 65536, .inl (f))) = WW a cB cI cJ cG I (uf F 34 f) O := rfl
theorem wpa_34 {f : Nat → Int32} (h : va_P D cl ((WW a cB cI cJ cG I F O).set 34 (a 34, .inl (cB, 65536, .inl (f)))) H) : va_P D cl (WW a cB cI cJ cG I (uf F 34 f) O) H := h
theorem wda_34 {f : Nat → Int32} (h : va_D A ((WW a cB cI cJ cG I F O).set 34 (a 34, .inl (cB, 65536, .inl (f))))) : va_D A (WW a cB cI cJ cG I (uf F 34 f) O) := h
theorem wsa_35 {f : Nat → Int32} : (WW a cB cI cJ cG I F O).set 35 (a 35, .inl (cB, 140000, .inl (f))) = WW a cB cI cJ cG I (uf F 35 f) O := rfl
theorem wpa_35 {f : Nat → Int32} (h : va_P D cl ((WW a cB cI cJ cG I F O).set 35 (a 35, .inl (cB, 140000, .inl (f)))) H) : va_P D cl (WW a cB cI cJ cG I (uf F 35 f) O) H := h
theorem wda_35 {f : Nat → Int32} (h : va_D A ((WW a cB cI cJ cG I F O).set 35 (a 35, .inl (cB, 140000, .inl (f))))) : va_D A (WW a cB cI cJ cG I (uf F 35 f) O) := h
theorem wsa_36 {f : Nat → Int32} : (WW a cB cI cJ cG I F O).set 36 (a 36, .inl (cI, 1102, .inl (f))) = WW a cB cI cJ cG I (uf F 36 f) O := rfl
theorem wpa_36 {f : Nat → Int32} (h : va_P D cl ((WW a cB cI cJ cG I F O).set 36 (a 36, .inl (cI, 1102, .inl (f)))) H) : va_P D cl (WW a cB cI cJ cG I (uf F 36 f) O) H := h
theorem wda_36 {f : Nat → Int32} (h : va_D A ((WW a cB cI cJ cG I F O).set 36 (a 36, .inl (cI, 1102, .inl (f))))) : va_D A (WW a cB cI cJ cG I (uf F 36 f) O) := h
theorem wsa_37 {f : Nat → Int32} : (WW a cB cI cJ cG I F O).set 37 (a 37, .inl (cI, 1102, .inl (f))) = WW a cB cI cJ cG I (uf F 37 f) O := rfl
theorem wpa_37 {f : Nat → Int32} (h : va_P D cl ((WW a cB cI cJ cG I F O).set 37 (a 37, .inl (cI, 1102, .inl (f)))) H) : va_P D cl (WW a cB cI cJ cG I (uf F 37 f) O) H := h
theorem wda_37 {f : Nat → Int32} (h : va_D A ((WW a cB cI cJ cG I F O).set 37 (a 37, .inl (cI, 1102, .inl (f))))) : va_D A (WW a cB cI cJ cG I (uf F 37 f) O) := h
theorem wsa_38 {f : Nat → Int32} : (WW a cB cI cJ cG I F O).set 38 (a 38, .inl (cI, 1102, .inl (f))) = WW a cB cI cJ cG I (uf F 38 f) O := rfl
theorem wpa_38 {f : Nat → Int32} (h : va_P D cl ((WW a cB cI cJ cG I F O).set 38 (a 38, .inl (cI, 1102, .inl (f)))) H) : va_P D cl (WW a cB cI cJ cG I (uf F 38 f) O) H := h
theorem wda_38 {f : Nat → Int32} (h : va_D A ((WW a cB cI cJ cG I F O).set 38 (a 38, .inl (cI, 1102, .inl (f))))) : va_D A (WW a cB cI cJ cG I (uf F 38 f) O) := h
theorem wsa_39 {f : Nat → Int32} : (WW a cB cI cJ cG I F O).set 39 (a 39, .inl (cI, 1102, .inl (f))) = WW a cB cI cJ cG I (uf F 39 f) O := rfl
theorem wpa_39 {f : Nat → Int32} (h : va_P D cl ((WW a cB cI cJ cG I F O).set 39 (a 39, .inl (cI, 1102, .inl (f)))) H) : va_P D cl (WW a cB cI cJ cG I (uf F 39 f) O) H := h
theorem wda_39 {f : Nat → Int32} (h : va_D A ((WW a cB cI cJ cG I F O).set 39 (a 39, .inl (cI, 1102, .inl (f))))) : va_D A (WW a cB cI cJ cG I (uf F 39 f) O) := h
theorem wsa_40 {f : Nat → Int32} : (WW a cB cI cJ cG I F O).set 40 (a 40, .inl (cI, 1102, .inl (f))) = WW a cB cI cJ cG I (uf F 40 f) O := rfl
theorem wpa_40 {f : Nat → Int32} (h : va_P D cl ((WW a cB cI cJ cG I F O).set 40 (a 40, .inl (cI, 1102, .inl (f)))) H) : va_P D cl (WW a cB cI cJ cG I (uf F 40 f) O) H := h
theorem wda_40 {f : Nat → Int32} (h : va_D A ((WW a cB cI cJ cG I F O).set 40 (a 40, .inl (cI, 1102, .inl (f))))) : va_D A (WW a cB cI cJ cG I (uf F 40 f) O) := h
theorem wsa_41 {f : Nat → Int32} : (WW a cB cI cJ cG I F O).set 41 (a 41, .inl (cI, 1102, .inl (f))) = WW a cB cI cJ cG I (uf F 41 f) O := rfl
theorem wpa_41 {f : Nat → Int32} (h : va_P D cl ((WW a cB cI cJ cG I F O).set 41 (a 41, .inl (cI, 1102, .inl (f)))) H) : va_P D cl (WW a cB cI cJ cG I (uf F 41 f) O) H := h
theorem wda_41 {f : Nat → Int32} (h : va_D A ((WW a cB cI cJ cG I F O).set 41 (a 41, .inl (cI, 1102, .inl (f))))) : va_D A (WW a cB cI cJ cG I (uf F 41 f) O) := h
theorem wsa_42 {f : Nat → Int32} : (WW a cB cI cJ cG I F O).set 42 (a 42, .inl (cI, 1102, .inl (f))) = WW a cB cI cJ cG I (uf F 42 f) O := rfl
theorem wpa_42 {f : Nat → Int32} (h : va_P D cl ((WW a cB cI cJ cG I F O).set 42 (a 42, .inl (cI, 1102, .inl (f)))) H) : va_P D cl (WW a cB cI cJ cG I (uf F 42 f) O) H := h
theorem wda_42 {f : Nat → Int32} (h : va_D A ((WW a cB cI cJ cG I F O).set 42 (a 42, .inl (cI, 1102, .inl (f))))) : va_D A (WW a cB cI cJ cG I (uf F 42 f) O) := h
theorem wsa_43 {f : Nat → Int32} : (WW a cB cI cJ cG I F O).set 43 (a 43, .inl (cI, 1102, .inl (f))) = WW a cB cI cJ cG I (uf F 43 f) O := rfl
theorem wpa_43 {f : Nat → Int32} (h : va_P D cl ((WW a cB cI cJ cG I F O).set 43 (a 43, .inl (cI, 1102, .inl (f)))) H) : va_P D cl (WW a cB cI cJ cG I (uf F 43 f) O) H := h
theorem wda_43 {f : Nat → Int32} (h : va_D A ((WW a cB cI cJ cG I F O).set 43 (a 43, .inl (cI, 1102, .inl (f))))) : va_D A (WW a cB cI cJ cG I (uf F 43 f) O) := h
theorem wsa_44 {f : Nat → Int32} : (WW a cB cI cJ cG I F O).set 44 (a 44, .inl (cB, 131200, .inl (f))) = WW a cB cI cJ cG I (uf F 44 f) O := rfl
theorem wpa_44 {f : Nat → Int32} (h : va_P D cl ((WW a cB cI cJ cG I F O).set 44 (a 44, .inl (cB, 131200, .inl (f)))) H) : va_P D cl (WW a cB cI cJ cG I (uf F 44 f) O) H := h
theorem wda_44 {f : Nat → Int32} (h : va_D A ((WW a cB cI cJ cG I F O).set 44 (a 44, .inl (cB, 131200, .inl (f))))) : va_D A (WW a cB cI cJ cG I (uf F 44 f) O) := h
theorem wsa_45 {f : Nat → Int32} : (WW a cB cI cJ cG I F O).set 45 (a 45, .inl (cI, 40000, .inl (f))) = WW a cB cI cJ cG I (uf F 45 f) O := rfl
theorem wpa_45 {f : Nat → Int32} (h : va_P D cl ((WW a cB cI cJ cG I F O).set 45 (a 45, .inl (cI, 40000, .inl (f)))) H) : va_P D cl (WW a cB cI cJ cG I (uf F 45 f) O) H := h
theorem wda_45 {f : Nat → Int32} (h : va_D A ((WW a cB cI cJ cG I F O).set 45 (a 45, .inl (cI, 40000, .inl (f))))) : va_D A (WW a cB cI cJ cG I (uf F 45 f) O) := h
theorem wsa_46 {f : Nat → Int32} : (WW a cB cI cJ cG I F O).set 46 (a 46, .inl (cI, 40000, .inl (f))) = WW a cB cI cJ cG I (uf F 46 f) O := rfl
theorem wpa_46 {f : Nat → Int32} (h : va_P D cl ((WW a cB cI cJ cG I F O).set 46 (a 46, .inl (cI, 40000, .inl (f)))) H) : va_P D cl (WW a cB cI cJ cG I (uf F 46 f) O) H := h
theorem wda_46 {f : Nat → Int32} (h : va_D A ((WW a cB cI cJ cG I F O).set 46 (a 46, .inl (cI, 40000, .inl (f))))) : va_D A (WW a cB cI cJ cG I (uf F 46 f) O) := h
theorem wsa_47 {f : Nat → Int32} : (WW a cB cI cJ cG I F O).set 47 (a 47, .inl (cI, 4, .inl (f))) = WW a cB cI cJ cG I (uf F 47 f) O := rfl
theorem wpa_47 {f : Nat → Int32} (h : va_P D cl ((WW a cB cI cJ cG I F O).set 47 (a 47, .inl (cI, 4, .inl (f)))) H) : va_P D cl (WW a cB cI cJ cG I (uf F 47 f) O) H := h
theorem wda_47 {f : Nat → Int32} (h : va_D A ((WW a cB cI cJ cG I F O).set 47 (a 47, .inl (cI, 4, .inl (f))))) : va_D A (WW a cB cI cJ cG I (uf F 47 f) O) := h
theorem wso {f : Nat → Int64} : (WW a cB cI cJ cG I F O).set 48 (a 48, .inl (cJ, 1, .inr (.inl f))) = WW a cB cI cJ cG I F f := rfl
end WWA
/-- the contract of a method that makes nothing: numbers and rows behind it as Q says -/
def MC (l : Launch) (D : va_G) (cB cI cJ cG : ClassId) (a : Nat → Nat) (O : Nat → Int64) (y : MethodName) (cc : ByteArray) (nL : Nat) (ret : Option FieldType) (lev : Nat) (av : List Value) (I : Nat → Int32) (F : Nat → Nat → Int32) (Q : Option Value → (Nat → Int32) → (Nat → Nat → Int32) → Prop) : Prop :=
  MW l D cls9 (ty9 cB cI cJ cG) y cc nL ret (rm9 lev 0 0) av (WW a cB cI cJ cG I F O) (fun v w2 => ∃ (I' : Nat → Int32) (F' : Nat → Nat → Int32), w2 = WW a cB cI cJ cG I' F' O ∧ Q v I' F') 0 0
end
section
/-! CONTRACTS OVER THE ONE WORLD -/
theorem mw_mono {l : Launch} {D : va_G} {cl : List vw_C} {tys : List (ClassId × FieldType)} {y : MethodName} {cc : ByteArray} {nL : Nat} {ret : Option FieldType} {rm : Room} {av : List Value} {ws : va_W} {post post' : Option Value → va_W → Prop} {mc ms : Nat}
    (h : MW l D cl tys y cc nL ret rm av ws post mc ms) (hp : ∀ v w, post v w → post' v w) : MW l D cl tys y cc nL ret rm av ws post' mc ms := fun sz =>
  MetFree.mono (h sz) (fun _ _ q => q) (fun _ _ _ _ _ q => q) (fun a st o t _ q => by
    obtain ⟨⟨⟨v, w2, h1, h2, h3, h4⟩, h5⟩, h6⟩ := q
    exact ⟨⟨⟨v, w2, h1, hp v w2 h2, h3, h4⟩, h5⟩, h6⟩)
/-- how a method over the one world ends: an int, nothing -/
def rt_i (p : Program) (l : Launch) (e : Env) (R : Room) (s : State) (m : MethodId) (args : Array Value) (below : List Frame) (meth : Method) (c : Code) (cc : ByteArray) (ret : Option FieldType) (D : va_G) (cB cI cJ cG : ClassId) (a : Nat → Nat) (O : Nat → Int64) (A0 : Nat → Prop) (Q : State → Prop) (post : Option Value → (Nat → Int32) → (Nat → Nat → Int32) → Prop) : Prop :=
  ∀ (pc : Nat) (ls : Array Slot) (v : Int32) (I : Nat → Int32) (F : Nat → Nat → Int32) (H : Heap) (locs : List Loc), va_S A0 s.heap H locs → va_P D cls9 (WW a cB cI cJ cG I F O) H → va_D A0 (WW a cB cI cJ cG I F O) → decode cc pc = .ok (.ireturn, 1) → (∀ ty, ret = some ty → narrow ty (.int v) = .int v) → post (some (.int v)) I F → W p l e R s m args below meth c H locs 0 0 Q (F0 m pc ls [.int v])
def rt_v (p : Program) (l : Launch) (e : Env) (R : Room) (s : State) (m : MethodId) (args : Array Value) (below : List Frame) (meth : Method) (c : Code) (cc : ByteArray) (D : va_G) (cB cI cJ cG : ClassId) (a : Nat → Nat) (O : Nat → Int64) (A0 : Nat → Prop) (Q : State → Prop) (post : Option Value → (Nat → Int32) → (Nat → Nat → Int32) → Prop) : Prop :=
  ∀ (pc : Nat) (ls : Array Slot) (I : Nat → Int32) (F : Nat → Nat → Int32) (H : Heap) (locs : List Loc), va_S A0 s.heap H locs → va_P D cls9 (WW a cB cI cJ cG I F O) H → va_D A0 (WW a cB cI cJ cG I F O) → decode cc pc = .ok (.return_, 1) → post none I F → W p l e R s m args below meth c H locs 0 0 Q (F0 m pc ls [])
theorem mc_of {l : Launch} {D : va_G} {cB cI cJ cG : ClassId} {a : Nat → Nat} {O : Nat → Int64} {y : MethodName} {cc : ByteArray} {nL : Nat} {ty : FieldType} {lev : Nat} {av : List Value} {I : Nat → Int32} {F : Nat → Nat → Int32} {post : Option Value → (Nat → Int32) → (Nat → Nat → Int32) → Prop} (hy : plainName y.cls = true) (hn : (lg_sl av).length ≤ nL)
    (body : ∀ (p : Program) (e : Env) (s : State) (m : MethodId) (below : List Frame) (meth : Method) (c : Code) (ls : Array Slot) (A0 : Nat → Prop) (Q : State → Prop), mw_C p s m av.toArray meth c cc nL (some ty) y.cls D cls9 (ty9 cB cI cJ cG) → va_P D cls9 (WW a cB cI cJ cG I F O) s.heap → va_D A0 (WW a cB cI cJ cG I F O) → (∀ q : Nat, s.heap.size ≤ q → A0 q) → va_S A0 s.heap s.heap [] → lv_has ls nL (lv_args 0 av) → rt_i p l e (rm9 lev 0 0) s m av.toArray below meth c cc (some ty) D cB cI cJ cG a O A0 Q post →
      W p l e (rm9 lev 0 0) s m av.toArray below meth c s.heap [] 0 0 Q (F0 m 0 ls [])) :
    MC l D cB cI cJ cG a O y cc nL (some ty) lev av I F post := by
  refine mw_of hy hn ?_
  intro p e s m below meth c ls C0 hin hP hD hA hS hl
  obtain ⟨hx, hb, hml, hr, hlocks, hown, hts, hK⟩ := id C0
  exact body p e s m below meth c ls _ _ C0 hP hD hA hS hl (fun pc ls v I' F' H locs hS hP hD hdg hn hq => mw_zret hx hb hr hlocks hS hP hD (Nat.le_refl _) (Nat.le_refl _) hdg (hn ty rfl) ⟨I', F', rfl, hq⟩)
theorem mc_ofv {l : Launch} {D : va_G} {cB cI cJ cG : ClassId} {a : Nat → Nat} {O : Nat → Int64} {y : MethodName} {cc : ByteArray} {nL : Nat} {lev : Nat} {av : List Value} {I : Nat → Int32} {F : Nat → Nat → Int32} {post : Option Value → (Nat → Int32) → (Nat → Nat → Int32) → Prop} (hy : plainName y.cls = true) (hn : (lg_sl av).length ≤ nL)
    (body : ∀ (p : Program) (e : Env) (s : State) (m : MethodId) (below : List Frame) (meth : Method) (c : Code) (ls : Array Slot) (A0 : Nat → Prop) (Q : State → Prop), mw_C p s m av.toArray meth c cc nL none y.cls D cls9 (ty9 cB cI cJ cG) → va_P D cls9 (WW a cB cI cJ cG I F O) s.heap → va_D A0 (WW a cB cI cJ cG I F O) → (∀ q : Nat, s.heap.size ≤ q → A0 q) → va_S A0 s.heap s.heap [] → lv_has ls nL (lv_args 0 av) → rt_v p l e (rm9 lev 0 0) s m av.toArray below meth c cc D cB cI cJ cG a O A0 Q post →
      W p l e (rm9 lev 0 0) s m av.toArray below meth c s.heap [] 0 0 Q (F0 m 0 ls [])) :
    MC l D cB cI cJ cG a O y cc nL none lev av I F post := by
  refine mw_of hy hn ?_
  intro p e s m below meth c ls C0 hin hP hD hA hS hl
  obtain ⟨hx, hb, hml, hr, hlocks, hown, hts, hK⟩ := id C0
  exact body p e s m below meth c ls _ _ C0 hP hD hA hS hl (fun pc ls I' F' H locs hS hP hD hdg hq => mw_vret hx hb hr hlocks hS hP hD (Nat.le_refl _) (Nat.le_refl _) hdg ⟨I', F', rfl, hq⟩)
theorem nr_i {v : Int32} : ∀ ty, (some FieldType.int : Option FieldType) = some ty → narrow ty (.int v) = .int v := fun _ h => by cases h; rfl
theorem nr_z {v : Int32} (h : v = 0 ∨ v = 1) : ∀ ty, (some FieldType.boolean : Option FieldType) = some ty → narrow ty (.int v) = .int v := fun _ h9 => by cases h9; rcases h with rfl | rfl <;> rfl
/-! BYTES, as numbers -/
def ub (x : Int32) : Nat := x.toBitVec.toNat % 256
theorem ub_lt (x : Int32) : ub x < 256 := Nat.mod_lt _ (by decide)
theorem ub_and (x : Int32) : x &&& 255 = nI (ub x) := pk_and x 8 (by decide)
theorem ub_sb {n : Nat} (h : n < 256) : ub (sb_b n) = n := by
  have h1 := (sb_byte n h).1
  rw [ub_and] at h1
  exact (nI_eq (Nat.lt_trans (ub_lt _) (by decide)) (Nat.lt_trans h (by decide))).mp h1
theorem bt_nI {f : Nat → Int32} {n : Nat} (h : n < 65536) : bt f (nI n) = nI (ub (f n)) := by
  rw [bt, if_neg (nI_pos (Nat.lt_trans h (by decide))), if_neg (nI_ge h (by decide)), nI_clamp (Nat.lt_trans h (by decide)), ub_and]
theorem bt_out {f : Nat → Int32} {n : Nat} (h : 65536 ≤ n) (h2 : n < 2 ^ 31) : bt f (nI n) = 0 := by
  rw [bt, if_neg (nI_pos h2), if_pos (nI_le h h2)]
/-- the byte there, as a number, 0 outside -/
def bn (f : Nat → Int32) (n : Nat) : Nat := if n < 65536 then ub (f n) else 0
theorem bn_lt (f : Nat → Int32) (n : Nat) : bn f n < 256 := by
  unfold bn; split
  · exact ub_lt _
  · decide
theorem bt_bn {f : Nat → Int32} {n : Nat} (h2 : n < 2 ^ 31) : bt f (nI n) = nI (bn f n) := by
  by_cases h : n < 65536
  · rw [bt_nI h, bn, if_pos h]
  · rw [bt_out (Nat.le_of_not_lt h) h2, bn, if_neg h]; rfl
theorem bset_in {f : Nat → Int32} {n : Nat} {v : Int32} (h : n < 65536) : bset f (nI n) v = upd f n v.toInt8.toInt32 := by
  rw [bset, if_neg (nI_pos (Nat.lt_trans h (by decide))), if_neg (nI_ge h (by decide)), nI_clamp (Nat.lt_trans h (by decide)), pk_vb]
theorem bset_out {f : Nat → Int32} {n : Nat} {v : Int32} (h : 65536 ≤ n) (h2 : n < 2 ^ 31) : bset f (nI n) v = f := by
  rw [bset, if_neg (nI_pos h2), if_pos (nI_le h h2)]
end
section
theorem g_254 : (Cond.instanceMethod ({ cls := "WireMessages$Bytes", name := "twoAt", desc := "(I)I" } : MethodName)) ∈ GT := gt_mem 254 (by decide +kernel) rfl
theorem g_255 : (Cond.code ({ cls := "WireMessages$Bytes", name := "twoAt", desc := "(I)I" } : MethodName) prog_2_method_3_code (2 : Nat) (Option.some FieldType.int)) ∈ GT := gt_mem 255 (by decide +kernel) rfl
theorem g_360 : (Cond.methodLink "WireMessages$Bytes" (20 : Nat) ({ cls := "WireMessages$Bytes", name := "twoAt", desc := "(I)I" } : MethodName)) ∈ GT := gt_mem 360 (by decide +kernel) rfl
theorem gs_By_twoAt : Cond.selects R_By y_By_twoAt y_By_twoAt ∈ GT := gt_sel (q := (⟨"WireMessages$Bytes", "twoAt", "(I)I"⟩, 2)) (by decide +kernel)
theorem d_By_fourAt_0 : decode b_By_fourAt 0 = .ok (.aload_n 0, 1) := by decide +kernel
theorem d_By_fourAt_1 : decode b_By_fourAt 1 = .ok (.iload_n 1, 1) := by decide +kernel
theorem d_By_fourAt_2 : decode b_By_fourAt 2 = .ok (.invokevirtual 20, 3) := by decide +kernel
theorem d_By_fourAt_5 : decode b_By_fourAt 5 = .ok (.bipush 16, 2) := by decide +kernel
theorem d_By_fourAt_7 : decode b_By_fourAt 7 = .ok (.ishl, 1) := by decide +kernel
theorem d_By_fourAt_8 : decode b_By_fourAt 8 = .ok (.aload_n 0, 1) := by decide +kernel
theorem d_By_fourAt_9 : decode b_By_fourAt 9 = .ok (.iload_n 1, 1) := by decide +kernel
theorem d_By_fourAt_10 : decode b_By_fourAt 10 = .ok (.iconst 2, 1) := by decide +kernel
theorem d_By_fourAt_11 : decode b_By_fourAt 11 = .ok (.iadd, 1) := by decide +kernel
theorem d_By_fourAt_12 : decode b_By_fourAt 12 = .ok (.invokevirtual 20, 3) := by decide +kernel
theorem d_By_fourAt_15 : decode b_By_fourAt 15 = .ok (.ior, 1) := by decide +kernel
theorem d_By_fourAt_16 : decode b_By_fourAt 16 = .ok (.ireturn, 1) := by decide +kernel
theorem m_By_at_tp (l : Launch) (D9 : va_G) (cB cI cJ cG : ClassId) (a : Nat → Nat) (O : Nat → Int64) (I : Nat → Int32) (F : Nat → Nat → Int32) (i : Int32) : MC l D9 cB cI cJ cG a O y_By_at b_By_at 2 (some .int) 0 [.ref (a 1), .int i] I F (fun v I' F' => v = some (.int (bt (F 2) i)) ∧ I = I' ∧ F = F') := mw_mono (c_By_at l D9 cB cI cJ cG _ 1 2 (a 1) (a 2) (by decide) (by decide) _ _ ww_1 ww_2 i) (fun v w h => ⟨I, F, h.2, h.1, rfl, rfl⟩)
theorem m_By_twoAt_tp (l : Launch) (D9 : va_G) (cB cI cJ cG : ClassId) (a : Nat → Nat) (O : Nat → Int64) (I : Nat → Int32) (F : Nat → Nat → Int32) (i : Int32) : MC l D9 cB cI cJ cG a O y_By_twoAt b_By_twoAt 2 (some .int) 1 [.ref (a 1), .int i] I F (fun v I' F' => v = some (.int (bt2 (F 2) i)) ∧ I = I' ∧ F = F') := mw_mono (c_By_twoAt l D9 cB cI cJ cG _ 1 2 (a 1) (a 2) (by decide) (by decide) _ _ ww_1 ww_2 i) (fun v w h => ⟨I, F, h.2, h.1, rfl, rfl⟩)
theorem m_By_set_tp (l : Launch) (D9 : va_G) (cB cI cJ cG : ClassId) (a : Nat → Nat) (O : Nat → Int64) (I : Nat → Int32) (F : Nat → Nat → Int32) (i x : Int32) : MC l D9 cB cI cJ cG a O y_By_set b_By_set 3 none 0 [.ref (a 1), .int i, .int x] I F (fun v I' F' => v = none ∧ I = I' ∧ F' = uf F 2 (bset (F 2) i x)) := mw_mono (c_By_set l D9 cB cI cJ cG _ 1 2 (a 1) (a 2) (by decide) (by decide) _ _ ww_1 ww_2 i x) (fun v w h => ⟨I, _, h.2.trans wsa_2, h.1, rfl, rfl⟩)
theorem m_By_setTwo_tp (l : Launch) (D9 : va_G) (cB cI cJ cG : ClassId) (a : Nat → Nat) (O : Nat → Int64) (I : Nat → Int32) (F : Nat → Nat → Int32) (i x : Int32) : MC l D9 cB cI cJ cG a O y_By_setTwo b_By_setTwo 3 none 1 [.ref (a 1), .int i, .int x] I F (fun v I' F' => v = none ∧ I = I' ∧ F' = uf F 2 (bset (bset (F 2) i (x >>> ((8 : Int32) &&& 31))) (i + 1) x)) := mw_mono (c_By_setTwo l D9 cB cI cJ cG _ 1 2 (a 1) (a 2) (by decide) (by decide) _ _ ww_1 ww_2 i x) (fun v w h => ⟨I, _, h.2.trans wsa_2, h.1, rfl, rfl⟩)
theorem m_By_put_tp (l : Launch) (D9 : va_G) (cB cI cJ cG : ClassId) (a : Nat → Nat) (O : Nat → Int64) (I : Nat → Int32) (F : Nat → Nat → Int32) (x : Int32) : MC l D9 cB cI cJ cG a O y_By_put b_By_put 2 none 1 [.ref (a 1), .int x] I F (fun v I' F' => v = none ∧ I' = uf I 2 (I 2 + 1) ∧ F' = uf F 2 (bset (F 2) (I 2) x)) := mw_mono (c_By_put l D9 cB cI cJ cG _ 1 2 (a 1) (a 2) (by decide) (by decide) _ _ ww_1 ww_2 x) (fun v w h => ⟨uf I 2 (I 2 + 1), uf F 2 (bset (F 2) (I 2) x), h.2, h.1, rfl, rfl⟩)
theorem m_By_putTwo_tp (l : Launch) (D9 : va_G) (cB cI cJ cG : ClassId) (a : Nat → Nat) (O : Nat → Int64) (I : Nat → Int32) (F : Nat → Nat → Int32) (x : Int32) : MC l D9 cB cI cJ cG a O y_By_putTwo b_By_putTwo 2 none 2 [.ref (a 1), .int x] I F (fun v I' F' => v = none ∧ I' = uf I 2 (I 2 + 1 + 1) ∧ F' = uf F 2 (bp2 (F 2) (I 2) x)) := mw_mono (c_By_putTwo l D9 cB cI cJ cG _ 1 2 (a 1) (a 2) (by decide) (by decide) _ _ ww_1 ww_2 x) (fun v w h => ⟨uf I 2 (I 2 + 1 + 1), uf F 2 (bp2 (F 2) (I 2) x), h.2, h.1, rfl, rfl⟩)
theorem m_By_putFour_tp (l : Launch) (D9 : va_G) (cB cI cJ cG : ClassId) (a : Nat → Nat) (O : Nat → Int64) (I : Nat → Int32) (F : Nat → Nat → Int32) (x : Int32) : MC l D9 cB cI cJ cG a O y_By_putFour b_By_putFour 2 none 3 [.ref (a 1), .int x] I F (fun v I' F' => v = none ∧ I' = uf I 2 (I 2 + 1 + 1 + 1 + 1) ∧ F' = uf F 2 (bp4 (F 2) (I 2) x)) := mw_mono (c_By_putFour l D9 cB cI cJ cG _ 1 2 (a 1) (a 2) (by decide) (by decide) _ _ ww_1 ww_2 x) (fun v w h => ⟨uf I 2 (I 2 + 1 + 1 + 1 + 1), uf F 2 (bp4 (F 2) (I 2) x), h.2, h.1, rfl, rfl⟩)
theorem m_By_at_gb (l : Launch) (D9 : va_G) (cB cI cJ cG : ClassId) (a : Nat → Nat) (O : Nat → Int64) (I : Nat → Int32) (F : Nat → Nat → Int32) (i : Int32) : MC l D9 cB cI cJ cG a O y_By_at b_By_at 2 (some .int) 0 [.ref (a 3), .int i] I F (fun v I' F' => v = some (.int (bt (F 4) i)) ∧ I = I' ∧ F = F') := mw_mono (c_By_at l D9 cB cI cJ cG _ 3 4 (a 3) (a 4) (by decide) (by decide) _ _ ww_3 ww_4 i) (fun v w h => ⟨I, F, h.2, h.1, rfl, rfl⟩)
theorem m_By_twoAt_gb (l : Launch) (D9 : va_G) (cB cI cJ cG : ClassId) (a : Nat → Nat) (O : Nat → Int64) (I : Nat → Int32) (F : Nat → Nat → Int32) (i : Int32) : MC l D9 cB cI cJ cG a O y_By_twoAt b_By_twoAt 2 (some .int) 1 [.ref (a 3), .int i] I F (fun v I' F' => v = some (.int (bt2 (F 4) i)) ∧ I = I' ∧ F = F') := mw_mono (c_By_twoAt l D9 cB cI cJ cG _ 3 4 (a 3) (a 4) (by decide) (by decide) _ _ ww_3 ww_4 i) (fun v w h => ⟨I, F, h.2, h.1, rfl, rfl⟩)
theorem m_By_set_gb (l : Launch) (D9 : va_G) (cB cI cJ cG : ClassId) (a : Nat → Nat) (O : Nat → Int64) (I : Nat → Int32) (F : Nat → Nat → Int32) (i x : Int32) : MC l D9 cB cI cJ cG a O y_By_set b_By_set 3 none 0 [.ref (a 3), .int i, .int x] I F (fun v I' F' => v = none ∧ I = I' ∧ F' = uf F 4 (bset (F 4) i x)) := mw_mono (c_By_set l D9 cB cI cJ cG _ 3 4 (a 3) (a 4) (by decide) (by decide) _ _ ww_3 ww_4 i x) (fun v w h => ⟨I, _, h.2.trans wsa_4, h.1, rfl, rfl⟩)
theorem m_By_setTwo_gb (l : Launch) (D9 : va_G) (cB cI cJ cG : ClassId) (a : Nat → Nat) (O : Nat → Int64) (I : Nat → Int32) (F : Nat → Nat → Int32) (i x : Int32) : MC l D9 cB cI cJ cG a O y_By_setTwo b_By_setTwo 3 none 1 [.ref (a 3), .int i, .int x] I F (fun v I' F' => v = none ∧ I = I' ∧ F' = uf F 4 (bset (bset (F 4) i (x >>> ((8 : Int32) &&& 31))) (i + 1) x)) := mw_mono (c_By_setTwo l D9 cB cI cJ cG _ 3 4 (a 3) (a 4) (by decide) (by decide) _ _ ww_3 ww_4 i x) (fun v w h => ⟨I, _, h.2.trans wsa_4, h.1, rfl, rfl⟩)
theorem m_By_put_gb (l : Launch) (D9 : va_G) (cB cI cJ cG : ClassId) (a : Nat → Nat) (O : Nat → Int64) (I : Nat → Int32) (F : Nat → Nat → Int32) (x : Int32) : MC l D9 cB cI cJ cG a O y_By_put b_By_put 2 none 1 [.ref (a 3), .int x] I F (fun v I' F' => v = none ∧ I' = uf I 3 (I 3 + 1) ∧ F' = uf F 4 (bset (F 4) (I 3) x)) := mw_mono (c_By_put l D9 cB cI cJ cG _ 3 4 (a 3) (a 4) (by decide) (by decide) _ _ ww_3 ww_4 x) (fun v w h => ⟨uf I 3 (I 3 + 1), uf F 4 (bset (F 4) (I 3) x), h.2, h.1, rfl, rfl⟩)
theorem m_By_putTwo_gb (l : Launch) (D9 : va_G) (cB cI cJ cG : ClassId) (a : Nat → Nat) (O : Nat → Int64) (I : Nat → Int32) (F : Nat → Nat → Int32) (x : Int32) : MC l D9 cB cI cJ cG a O y_By_putTwo b_By_putTwo 2 none 2 [.ref (a 3), .int x] I F (fun v I' F' => v = none ∧ I' = uf I 3 (I 3 + 1 + 1) ∧ F' = uf F 4 (bp2 (F 4) (I 3) x)) := mw_mono (c_By_putTwo l D9 cB cI cJ cG _ 3 4 (a 3) (a 4) (by decide) (by decide) _ _ ww_3 ww_4 x) (fun v w h => ⟨uf I 3 (I 3 + 1 + 1), uf F 4 (bp2 (F 4) (I 3) x), h.2, h.1, rfl, rfl⟩)
theorem m_By_putFour_gb (l : Launch) (D9 : va_G) (cB cI cJ cG : ClassId) (a : Nat → Nat) (O : Nat → Int64) (I : Nat → Int32) (F : Nat → Nat → Int32) (x : Int32) : MC l D9 cB cI cJ cG a O y_By_putFour b_By_putFour 2 none 3 [.ref (a 3), .int x] I F (fun v I' F' => v = none ∧ I' = uf I 3 (I 3 + 1 + 1 + 1 + 1) ∧ F' = uf F 4 (bp4 (F 4) (I 3) x)) := mw_mono (c_By_putFour l D9 cB cI cJ cG _ 3 4 (a 3) (a 4) (by decide) (by decide) _ _ ww_3 ww_4 x) (fun v w h => ⟨uf I 3 (I 3 + 1 + 1 + 1 + 1), uf F 4 (bp4 (F 4) (I 3) x), h.2, h.1, rfl, rfl⟩)
theorem m_By_at_ms (l : Launch) (D9 : va_G) (cB cI cJ cG : ClassId) (a : Nat → Nat) (O : Nat → Int64) (I : Nat → Int32) (F : Nat → Nat → Int32) (i : Int32) : MC l D9 cB cI cJ cG a O y_By_at b_By_at 2 (some .int) 0 [.ref (a 20), .int i] I F (fun v I' F' => v = some (.int (bt (F 21) i)) ∧ I = I' ∧ F = F') := mw_mono (c_By_at l D9 cB cI cJ cG _ 20 21 (a 20) (a 21) (by decide) (by decide) _ _ ww_20 ww_21 i) (fun v w h => ⟨I, F, h.2, h.1, rfl, rfl⟩)
theorem m_By_twoAt_ms (l : Launch) (D9 : va_G) (cB cI cJ cG : ClassId) (a : Nat → Nat) (O : Nat → Int64) (I : Nat → Int32) (F : Nat → Nat → Int32) (i : Int32) : MC l D9 cB cI cJ cG a O y_By_twoAt b_By_twoAt 2 (some .int) 1 [.ref (a 20), .int i] I F (fun v I' F' => v = some (.int (bt2 (F 21) i)) ∧ I = I' ∧ F = F') := mw_mono (c_By_twoAt l D9 cB cI cJ cG _ 20 21 (a 20) (a 21) (by decide) (by decide) _ _ ww_20 ww_21 i) (fun v w h => ⟨I, F, h.2, h.1, rfl, rfl⟩)
theorem m_By_set_ms (l : Launch) (D9 : va_G) (cB cI cJ cG : ClassId) (a : Nat → Nat) (O : Nat → Int64) (I : Nat → Int32) (F : Nat → Nat → Int32) (i x : Int32) : MC l D9 cB cI cJ cG a O y_By_set b_By_set 3 none 0 [.ref (a 20), .int i, .int x] I F (fun v I' F' => v = none ∧ I = I' ∧ F' = uf F 21 (bset (F 21) i x)) := mw_mono (c_By_set l D9 cB cI cJ cG _ 20 21 (a 20) (a 21) (by decide) (by decide) _ _ ww_20 ww_21 i x) (fun v w h => ⟨I, _, h.2.trans wsa_21, h.1, rfl, rfl⟩)
theorem m_By_setTwo_ms (l : Launch) (D9 : va_G) (cB cI cJ cG : ClassId) (a : Nat → Nat) (O : Nat → Int64) (I : Nat → Int32) (F : Nat → Nat → Int32) (i x : Int32) : MC l D9 cB cI cJ cG a O y_By_setTwo b_By_setTwo 3 none 1 [.ref (a 20), .int i, .int x] I F (fun v I' F' => v = none ∧ I = I' ∧ F' = uf F 21 (bset (bset (F 21) i (x >>> ((8 : Int32) &&& 31))) (i + 1) x)) := mw_mono (c_By_setTwo l D9 cB cI cJ cG _ 20 21 (a 20) (a 21) (by decide) (by decide) _ _ ww_20 ww_21 i x) (fun v w h => ⟨I, _, h.2.trans wsa_21, h.1, rfl, rfl⟩)
theorem m_By_put_ms (l : Launch) (D9 : va_G) (cB cI cJ cG : ClassId) (a : Nat → Nat) (O : Nat → Int64) (I : Nat → Int32) (F : Nat → Nat → Int32) (x : Int32) : MC l D9 cB cI cJ cG a O y_By_put b_By_put 2 none 1 [.ref (a 20), .int x] I F (fun v I' F' => v = none ∧ I' = uf I 13 (I 13 + 1) ∧ F' = uf F 21 (bset (F 21) (I 13) x)) := mw_mono (c_By_put l D9 cB cI cJ cG _ 20 21 (a 20) (a 21) (by decide) (by decide) _ _ ww_20 ww_21 x) (fun v w h => ⟨uf I 13 (I 13 + 1), uf F 21 (bset (F 21) (I 13) x), h.2, h.1, rfl, rfl⟩)
theorem m_By_putTwo_ms (l : Launch) (D9 : va_G) (cB cI cJ cG : ClassId) (a : Nat → Nat) (O : Nat → Int64) (I : Nat → Int32) (F : Nat → Nat → Int32) (x : Int32) : MC l D9 cB cI cJ cG a O y_By_putTwo b_By_putTwo 2 none 2 [.ref (a 20), .int x] I F (fun v I' F' => v = none ∧ I' = uf I 13 (I 13 + 1 + 1) ∧ F' = uf F 21 (bp2 (F 21) (I 13) x)) := mw_mono (c_By_putTwo l D9 cB cI cJ cG _ 20 21 (a 20) (a 21) (by decide) (by decide) _ _ ww_20 ww_21 x) (fun v w h => ⟨uf I 13 (I 13 + 1 + 1), uf F 21 (bp2 (F 21) (I 13) x), h.2, h.1, rfl, rfl⟩)
theorem m_By_putFour_ms (l : Launch) (D9 : va_G) (cB cI cJ cG : ClassId) (a : Nat → Nat) (O : Nat → Int64) (I : Nat → Int32) (F : Nat → Nat → Int32) (x : Int32) : MC l D9 cB cI cJ cG a O y_By_putFour b_By_putFour 2 none 3 [.ref (a 20), .int x] I F (fun v I' F' => v = none ∧ I' = uf I 13 (I 13 + 1 + 1 + 1 + 1) ∧ F' = uf F 21 (bp4 (F 21) (I 13) x)) := mw_mono (c_By_putFour l D9 cB cI cJ cG _ 20 21 (a 20) (a 21) (by decide) (by decide) _ _ ww_20 ww_21 x) (fun v w h => ⟨uf I 13 (I 13 + 1 + 1 + 1 + 1), uf F 21 (bp4 (F 21) (I 13) x), h.2, h.1, rfl, rfl⟩)
set_option maxHeartbeats 4000000 in
set_option maxRecDepth 100000 in
theorem m_By_fourAt_tp (l : Launch) (D9 : va_G) (cB cI cJ cG : ClassId) (a : Nat → Nat) (O : Nat → Int64) (I : Nat → Int32) (F : Nat → Nat → Int32) (i : Int32) : MC l D9 cB cI cJ cG a O y_By_fourAt b_By_fourAt 2 (some .int) 2 [.ref (a 1), .int i] I F (fun v I' F' => v = some (.int (bt2 (F 2) i <<< ((16 : Int32) &&& 31) ||| bt2 (F 2) (i + 2))) ∧ I = I' ∧ F = F') := by
  refine mc_of (by decide) (Nat.le_of_ble_eq_true rfl) ?_
  intro p e s m below meth c ls A0 Q C0 hP hD hA hS hl hret
  obtain ⟨hx, hb, hml, hr, hlocks, hown, hts, hK⟩ := id C0
  have hl : lv_has ls 2 [(0, .ref (a 1)), (1, .int i)] := hl
  refine lv_aload_n hx hb d_By_fourAt_0 rfl (lv_at hl 0 rfl) ?_
  refine lv_iload_n hx hb d_By_fourAt_1 rfl (lv_at hl 1 rfl) ?_
  refine mw_cV (ci := 0) (k := 1) C0 (m_By_twoAt_tp l D9 cB cI cJ cG a O _ _ i) g_255 g_2 g_360 g_254 gs_By_twoAt ⟨by decide +kernel, by decide +kernel, show Option.map (fun d => d.parameters.length) (parseMethodDescriptor y_By_twoAt.desc) = some 1 by decide +kernel⟩ ⟨by decide, by decide⟩ rfl rfl hP hD hS hA rfl ww_1 hl.1 (Nat.le_of_ble_eq_true rfl) rfl d_By_fourAt_2 ⟨by decide, by decide⟩ (fun v9 w9 H locs hq hP hD hS => ?_)
  obtain ⟨I1, F2, hw9, q3⟩ := hq
  subst hw9
  obtain ⟨rfl, rfl, rfl⟩ := q3
  refine lv_bipush (v := 16) hx hb d_By_fourAt_5 (by decide) ?_
  refine lv_ishl hx hb d_By_fourAt_7 ?_
  refine lv_aload_n hx hb d_By_fourAt_8 rfl (lv_at hl 0 rfl) ?_
  refine lv_iload_n hx hb d_By_fourAt_9 rfl (lv_at hl 1 rfl) ?_
  refine lv_iconst (v := 2) hx hb d_By_fourAt_10 (by decide) ?_
  refine lv_iadd hx hb d_By_fourAt_11 ?_
  refine mw_cV (ci := 0) (k := 1) C0 (m_By_twoAt_tp l D9 cB cI cJ cG a O _ _ (i + 2)) g_255 g_2 g_360 g_254 gs_By_twoAt ⟨by decide +kernel, by decide +kernel, show Option.map (fun d => d.parameters.length) (parseMethodDescriptor y_By_twoAt.desc) = some 1 by decide +kernel⟩ ⟨by decide, by decide⟩ rfl rfl hP hD hS hA rfl ww_1 hl.1 (Nat.le_of_ble_eq_true rfl) rfl d_By_fourAt_12 ⟨by decide, by decide⟩ (fun v9 w9 H locs hq hP hD hS => ?_)
  obtain ⟨I4, F5, hw9, q6⟩ := hq
  subst hw9
  obtain ⟨rfl, rfl, rfl⟩ := q6
  refine lv_ior hx hb d_By_fourAt_15 ?_
  exact hret _ _ _ _ _ _ _ hS hP hD d_By_fourAt_16 nr_i (⟨rfl, rfl, rfl⟩)
end
section
def k_fx (t : Nat) : Int32 := if t = 1 then 4 else if t = 28 then 16 else -1
def k_nm (t : Nat) : Nat := if t = 2 ∨ t = 5 ∨ t = 12 ∨ t = 15 ∨ t = 33 then 1 else if t = 6 then 2 else 0
def k_bf (t : Nat) : Nat := if t = 15 then 2 else if t = 33 then 6 else 0
def k_bh (t : Nat) : Nat := if t = 6 then 20 else 0
def k_sh (t : Nat) : Bool := t == 2 || t == 5 || t == 12 || t == 15 || t == 6
theorem k_sh_a {t : Nat} (h : t ≠ 33) (h2 : 0 < k_nm t) : k_sh t = true := by
  unfold k_nm at h2; unfold k_sh
  simp only [Bool.or_eq_true, beq_iff_eq]
  split at h2
  · omega
  · split at h2 <;> omega
theorem k_sh_b {t : Nat} (h : t = 33) : k_sh t = false := by subst h; rfl
theorem k_nm_lt (t : Nat) : k_nm t < 2 ^ 31 := by unfold k_nm; split; decide; split <;> decide
theorem k_sh_c {t : Nat} (h2 : k_nm t = 0) : k_sh t = false := by
  unfold k_nm at h2; unfold k_sh
  simp only [Bool.or_eq_false_iff, beq_eq_false_iff_ne]
  split at h2
  · omega
  · split at h2 <;> omega
theorem g_16 : (Cond.initialized "WireMessages$Kinds") ∈ GT := gt_mem 16 (by decide +kernel) rfl
theorem g_329 : (Cond.static ({ cls := "WireMessages$Kinds", name := "namesIn", desc := "(I)I" } : MethodName)) ∈ GT := gt_mem 329 (by decide +kernel) rfl
theorem g_330 : (Cond.code ({ cls := "WireMessages$Kinds", name := "namesIn", desc := "(I)I" } : MethodName) prog_5_method_3_code (1 : Nat) (Option.some FieldType.int)) ∈ GT := gt_mem 330 (by decide +kernel) rfl
theorem g_344 : (Cond.methodLink "WireMessages$Kinds" (7 : Nat) ({ cls := "WireMessages$Kinds", name := "namesIn", desc := "(I)I" } : MethodName)) ∈ GT := gt_mem 344 (by decide +kernel) rfl
theorem d_Ki_fixedSize_0 : decode b_Ki_fixedSize 0 = .ok (.iload_n 0, 1) := by decide +kernel
theorem d_Ki_fixedSize_1 : decode b_Ki_fixedSize 1 = .ok (.lookupswitch 32 #[(1, 27), (28, 29)], 27) := by decide +kernel
theorem d_Ki_fixedSize_28 : decode b_Ki_fixedSize 28 = .ok (.iconst 4, 1) := by decide +kernel
theorem d_Ki_fixedSize_29 : decode b_Ki_fixedSize 29 = .ok (.ireturn, 1) := by decide +kernel
theorem d_Ki_fixedSize_30 : decode b_Ki_fixedSize 30 = .ok (.bipush 16, 2) := by decide +kernel
theorem d_Ki_fixedSize_32 : decode b_Ki_fixedSize 32 = .ok (.ireturn, 1) := by decide +kernel
theorem d_Ki_fixedSize_33 : decode b_Ki_fixedSize 33 = .ok (.iconst (-1), 1) := by decide +kernel
theorem d_Ki_fixedSize_34 : decode b_Ki_fixedSize 34 = .ok (.ireturn, 1) := by decide +kernel
theorem d_Ki_namesIn_0 : decode b_Ki_namesIn 0 = .ok (.iload_n 0, 1) := by decide +kernel
theorem d_Ki_namesIn_1 : decode b_Ki_namesIn 1 = .ok (.lookupswitch 63 #[(2, 59), (5, 59), (6, 61), (12, 59), (15, 59), (33, 59)], 59) := by decide +kernel
theorem d_Ki_namesIn_60 : decode b_Ki_namesIn 60 = .ok (.iconst 1, 1) := by decide +kernel
theorem d_Ki_namesIn_61 : decode b_Ki_namesIn 61 = .ok (.ireturn, 1) := by decide +kernel
theorem d_Ki_namesIn_62 : decode b_Ki_namesIn 62 = .ok (.iconst 2, 1) := by decide +kernel
theorem d_Ki_namesIn_63 : decode b_Ki_namesIn 63 = .ok (.ireturn, 1) := by decide +kernel
theorem d_Ki_namesIn_64 : decode b_Ki_namesIn 64 = .ok (.iconst 0, 1) := by decide +kernel
theorem d_Ki_namesIn_65 : decode b_Ki_namesIn 65 = .ok (.ireturn, 1) := by decide +kernel
theorem d_Ki_bytesBeforeNames_0 : decode b_Ki_bytesBeforeNames 0 = .ok (.iload_n 0, 1) := by decide +kernel
theorem d_Ki_bytesBeforeNames_1 : decode b_Ki_bytesBeforeNames 1 = .ok (.lookupswitch 32 #[(15, 27), (33, 29)], 27) := by decide +kernel
theorem d_Ki_bytesBeforeNames_28 : decode b_Ki_bytesBeforeNames 28 = .ok (.iconst 2, 1) := by decide +kernel
theorem d_Ki_bytesBeforeNames_29 : decode b_Ki_bytesBeforeNames 29 = .ok (.ireturn, 1) := by decide +kernel
theorem d_Ki_bytesBeforeNames_30 : decode b_Ki_bytesBeforeNames 30 = .ok (.bipush 6, 2) := by decide +kernel
theorem d_Ki_bytesBeforeNames_32 : decode b_Ki_bytesBeforeNames 32 = .ok (.ireturn, 1) := by decide +kernel
theorem d_Ki_bytesBeforeNames_33 : decode b_Ki_bytesBeforeNames 33 = .ok (.iconst 0, 1) := by decide +kernel
theorem d_Ki_bytesBeforeNames_34 : decode b_Ki_bytesBeforeNames 34 = .ok (.ireturn, 1) := by decide +kernel
theorem d_Ki_bytesBehindNames_0 : decode b_Ki_bytesBehindNames 0 = .ok (.iload_n 0, 1) := by decide +kernel
theorem d_Ki_bytesBehindNames_1 : decode b_Ki_bytesBehindNames 1 = .ok (.bipush 6, 2) := by decide +kernel
theorem d_Ki_bytesBehindNames_3 : decode b_Ki_bytesBehindNames 3 = .ok (.if_icmp .ne 8, 3) := by decide +kernel
theorem d_Ki_bytesBehindNames_6 : decode b_Ki_bytesBehindNames 6 = .ok (.bipush 20, 2) := by decide +kernel
theorem d_Ki_bytesBehindNames_8 : decode b_Ki_bytesBehindNames 8 = .ok (.goto 4, 3) := by decide +kernel
theorem d_Ki_bytesBehindNames_11 : decode b_Ki_bytesBehindNames 11 = .ok (.iconst 0, 1) := by decide +kernel
theorem d_Ki_bytesBehindNames_12 : decode b_Ki_bytesBehindNames 12 = .ok (.ireturn, 1) := by decide +kernel
theorem d_Ki_sharesNames_0 : decode b_Ki_sharesNames 0 = .ok (.iload_n 0, 1) := by decide +kernel
theorem d_Ki_sharesNames_1 : decode b_Ki_sharesNames 1 = .ok (.bipush 33, 2) := by decide +kernel
theorem d_Ki_sharesNames_3 : decode b_Ki_sharesNames 3 = .ok (.if_icmp .eq 14, 3) := by decide +kernel
theorem d_Ki_sharesNames_6 : decode b_Ki_sharesNames 6 = .ok (.iload_n 0, 1) := by decide +kernel
theorem d_Ki_sharesNames_7 : decode b_Ki_sharesNames 7 = .ok (.invokestatic 7, 3) := by decide +kernel
theorem d_Ki_sharesNames_10 : decode b_Ki_sharesNames 10 = .ok (.ifCond .le 7, 3) := by decide +kernel
theorem d_Ki_sharesNames_13 : decode b_Ki_sharesNames 13 = .ok (.iconst 1, 1) := by decide +kernel
theorem d_Ki_sharesNames_14 : decode b_Ki_sharesNames 14 = .ok (.goto 4, 3) := by decide +kernel
theorem d_Ki_sharesNames_17 : decode b_Ki_sharesNames 17 = .ok (.iconst 0, 1) := by decide +kernel
theorem d_Ki_sharesNames_18 : decode b_Ki_sharesNames 18 = .ok (.ireturn, 1) := by decide +kernel
set_option maxHeartbeats 4000000 in
set_option maxRecDepth 100000 in
theorem m_Ki_fixedSize (l : Launch) (D9 : va_G) (cB cI cJ cG : ClassId) (a : Nat → Nat) (O : Nat → Int64) (I : Nat → Int32) (F : Nat → Nat → Int32) (t : Nat) (ht : t < 65536) : MC l D9 cB cI cJ cG a O y_Ki_fixedSize b_Ki_fixedSize 1 (some .int) 0 [.int (nI t)] I F (fun v I' F' => v = some (.int (k_fx t)) ∧ I = I' ∧ F = F') := by
  refine mc_of (by decide) (Nat.le_of_ble_eq_true rfl) ?_
  intro p e s m below meth c ls A0 Q C0 hP hD hA hS hl hret
  obtain ⟨hx, hb, hml, hr, hlocks, hown, hts, hK⟩ := id C0
  have hl : lv_has ls 1 [(0, .int (nI t))] := hl
  refine lv_iload_n hx hb d_Ki_fixedSize_0 rfl (lv_at hl 0 rfl) ?_
  by_cases h1 : t = 1
  · refine lv_lookup (tgt := 28) hx hb d_Ki_fixedSize_1 (by decide) (show _ = _ by rw [h1]) (by decide) ?_
    refine lv_iconst (v := 4) hx hb d_Ki_fixedSize_28 (by decide) ?_
    exact hret _ _ _ _ _ _ _ hS hP hD d_Ki_fixedSize_29 nr_i (⟨by simp [k_fx, h1] <;> rfl, rfl, rfl⟩)
  · by_cases h2 : t = 28
    · refine lv_lookup (tgt := 30) hx hb d_Ki_fixedSize_1 (by decide) (show _ = _ by rw [h2]) (by decide) ?_
      refine lv_bipush (v := 16) hx hb d_Ki_fixedSize_30 (by decide) ?_
      exact hret _ _ _ _ _ _ _ hS hP hD d_Ki_fixedSize_32 nr_i (⟨by simp [k_fx, h2] <;> rfl, rfl, rfl⟩)
    · refine lv_lookup (tgt := 33) hx hb d_Ki_fixedSize_1 (by decide) (show Op.lookupswitch.offset [(1, 27), (28, 29)] (32) (nI t).toInt = 32 by rw [nI_toInt (by omega), Op.lookupswitch.offset_cons, if_neg (by omega), Op.lookupswitch.offset_cons, if_neg (by omega), Op.lookupswitch.offset_nil]) (by decide) ?_
      refine lv_iconst (v := -1) hx hb d_Ki_fixedSize_33 (by decide) ?_
      exact hret _ _ _ _ _ _ _ hS hP hD d_Ki_fixedSize_34 nr_i (⟨by simp [k_fx, h1, h2] <;> rfl, rfl, rfl⟩)
set_option maxHeartbeats 4000000 in
set_option maxRecDepth 100000 in
theorem m_Ki_namesIn (l : Launch) (D9 : va_G) (cB cI cJ cG : ClassId) (a : Nat → Nat) (O : Nat → Int64) (I : Nat → Int32) (F : Nat → Nat → Int32) (t : Nat) (ht : t < 65536) : MC l D9 cB cI cJ cG a O y_Ki_namesIn b_Ki_namesIn 1 (some .int) 0 [.int (nI t)] I F (fun v I' F' => v = some (.int (nI (k_nm t))) ∧ I = I' ∧ F = F') := by
  refine mc_of (by decide) (Nat.le_of_ble_eq_true rfl) ?_
  intro p e s m below meth c ls A0 Q C0 hP hD hA hS hl hret
  obtain ⟨hx, hb, hml, hr, hlocks, hown, hts, hK⟩ := id C0
  have hl : lv_has ls 1 [(0, .int (nI t))] := hl
  refine lv_iload_n hx hb d_Ki_namesIn_0 rfl (lv_at hl 0 rfl) ?_
  by_cases h1 : t = 2
  · refine lv_lookup (tgt := 60) hx hb d_Ki_namesIn_1 (by decide) (show _ = _ by rw [h1]) (by decide) ?_
    refine lv_iconst (v := 1) hx hb d_Ki_namesIn_60 (by decide) ?_
    exact hret _ _ _ _ _ _ _ hS hP hD d_Ki_namesIn_61 nr_i (⟨by simp [k_nm, h1] <;> rfl, rfl, rfl⟩)
  · by_cases h2 : t = 5
    · refine lv_lookup (tgt := 60) hx hb d_Ki_namesIn_1 (by decide) (show _ = _ by rw [h2]) (by decide) ?_
      refine lv_iconst (v := 1) hx hb d_Ki_namesIn_60 (by decide) ?_
      exact hret _ _ _ _ _ _ _ hS hP hD d_Ki_namesIn_61 nr_i (⟨by simp [k_nm, h2] <;> rfl, rfl, rfl⟩)
    · by_cases h3 : t = 6
      · refine lv_lookup (tgt := 62) hx hb d_Ki_namesIn_1 (by decide) (show _ = _ by rw [h3]) (by decide) ?_
        refine lv_iconst (v := 2) hx hb d_Ki_namesIn_62 (by decide) ?_
        exact hret _ _ _ _ _ _ _ hS hP hD d_Ki_namesIn_63 nr_i (⟨by simp [k_nm, h3] <;> rfl, rfl, rfl⟩)
      · by_cases h4 : t = 12
        · refine lv_lookup (tgt := 60) hx hb d_Ki_namesIn_1 (by decide) (show _ = _ by rw [h4]) (by decide) ?_
          refine lv_iconst (v := 1) hx hb d_Ki_namesIn_60 (by decide) ?_
          exact hret _ _ _ _ _ _ _ hS hP hD d_Ki_namesIn_61 nr_i (⟨by simp [k_nm, h4] <;> rfl, rfl, rfl⟩)
        · by_cases h5 : t = 15
          · refine lv_lookup (tgt := 60) hx hb d_Ki_namesIn_1 (by decide) (show _ = _ by rw [h5]) (by decide) ?_
            refine lv_iconst (v := 1) hx hb d_Ki_namesIn_60 (by decide) ?_
            exact hret _ _ _ _ _ _ _ hS hP hD d_Ki_namesIn_61 nr_i (⟨by simp [k_nm, h5] <;> rfl, rfl, rfl⟩)
          · by_cases h6 : t = 33
            · refine lv_lookup (tgt := 60) hx hb d_Ki_namesIn_1 (by decide) (show _ = _ by rw [h6]) (by decide) ?_
              refine lv_iconst (v := 1) hx hb d_Ki_namesIn_60 (by decide) ?_
              exact hret _ _ _ _ _ _ _ hS hP hD d_Ki_namesIn_61 nr_i (⟨by simp [k_nm, h6] <;> rfl, rfl, rfl⟩)
            · refine lv_lookup (tgt := 64) hx hb d_Ki_namesIn_1 (by decide) (show Op.lookupswitch.offset [(2, 59), (5, 59), (6, 61), (12, 59), (15, 59), (33, 59)] (63) (nI t).toInt = 63 by rw [nI_toInt (by omega), Op.lookupswitch.offset_cons, if_neg (by omega), Op.lookupswitch.offset_cons, if_neg (by omega), Op.lookupswitch.offset_cons, if_neg (by omega), Op.lookupswitch.offset_cons, if_neg (by omega), Op.lookupswitch.offset_cons, if_neg (by omega), Op.lookupswitch.offset_cons, if_neg (by omega), Op.lookupswitch.offset_nil]) (by decide) ?_
              refine lv_iconst (v := 0) hx hb d_Ki_namesIn_64 (by decide) ?_
              exact hret _ _ _ _ _ _ _ hS hP hD d_Ki_namesIn_65 nr_i (⟨by simp [k_nm, h1, h2, h3, h4, h5, h6] <;> rfl, rfl, rfl⟩)
set_option maxHeartbeats 4000000 in
set_option maxRecDepth 100000 in
theorem m_Ki_bytesBeforeNames (l : Launch) (D9 : va_G) (cB cI cJ cG : ClassId) (a : Nat → Nat) (O : Nat → Int64) (I : Nat → Int32) (F : Nat → Nat → Int32) (t : Nat) (ht : t < 65536) : MC l D9 cB cI cJ cG a O y_Ki_bytesBeforeNames b_Ki_bytesBeforeNames 1 (some .int) 0 [.int (nI t)] I F (fun v I' F' => v = some (.int (nI (k_bf t))) ∧ I = I' ∧ F = F') := by
  refine mc_of (by decide) (Nat.le_of_ble_eq_true rfl) ?_
  intro p e s m below meth c ls A0 Q C0 hP hD hA hS hl hret
  obtain ⟨hx, hb, hml, hr, hlocks, hown, hts, hK⟩ := id C0
  have hl : lv_has ls 1 [(0, .int (nI t))] := hl
  refine lv_iload_n hx hb d_Ki_bytesBeforeNames_0 rfl (lv_at hl 0 rfl) ?_
  by_cases h1 : t = 15
  · refine lv_lookup (tgt := 28) hx hb d_Ki_bytesBeforeNames_1 (by decide) (show _ = _ by rw [h1]) (by decide) ?_
    refine lv_iconst (v := 2) hx hb d_Ki_bytesBeforeNames_28 (by decide) ?_
    exact hret _ _ _ _ _ _ _ hS hP hD d_Ki_bytesBeforeNames_29 nr_i (⟨by simp [k_bf, h1] <;> rfl, rfl, rfl⟩)
  · by_cases h2 : t = 33
    · refine lv_lookup (tgt := 30) hx hb d_Ki_bytesBeforeNames_1 (by decide) (show _ = _ by rw [h2]) (by decide) ?_
      refine lv_bipush (v := 6) hx hb d_Ki_bytesBeforeNames_30 (by decide) ?_
      exact hret _ _ _ _ _ _ _ hS hP hD d_Ki_bytesBeforeNames_32 nr_i (⟨by simp [k_bf, h2] <;> rfl, rfl, rfl⟩)
    · refine lv_lookup (tgt := 33) hx hb d_Ki_bytesBeforeNames_1 (by decide) (show Op.lookupswitch.offset [(15, 27), (33, 29)] (32) (nI t).toInt = 32 by rw [nI_toInt (by omega), Op.lookupswitch.offset_cons, if_neg (by omega), Op.lookupswitch.offset_cons, if_neg (by omega), Op.lookupswitch.offset_nil]) (by decide) ?_
      refine lv_iconst (v := 0) hx hb d_Ki_bytesBeforeNames_33 (by decide) ?_
      exact hret _ _ _ _ _ _ _ hS hP hD d_Ki_bytesBeforeNames_34 nr_i (⟨by simp [k_bf, h1, h2] <;> rfl, rfl, rfl⟩)
set_option maxHeartbeats 4000000 in
set_option maxRecDepth 100000 in
theorem m_Ki_bytesBehindNames (l : Launch) (D9 : va_G) (cB cI cJ cG : ClassId) (a : Nat → Nat) (O : Nat → Int64) (I : Nat → Int32) (F : Nat → Nat → Int32) (t : Nat) (ht : t < 65536) : MC l D9 cB cI cJ cG a O y_Ki_bytesBehindNames b_Ki_bytesBehindNames 1 (some .int) 0 [.int (nI t)] I F (fun v I' F' => v = some (.int (nI (k_bh t))) ∧ I = I' ∧ F = F') := by
  refine mc_of (by decide) (Nat.le_of_ble_eq_true rfl) ?_
  intro p e s m below meth c ls A0 Q C0 hP hD hA hS hl hret
  obtain ⟨hx, hb, hml, hr, hlocks, hown, hts, hK⟩ := id C0
  have hl : lv_has ls 1 [(0, .int (nI t))] := hl
  refine lv_iload_n hx hb d_Ki_bytesBehindNames_0 rfl (lv_at hl 0 rfl) ?_
  refine lv_bipush (v := 6) hx hb d_Ki_bytesBehindNames_1 (by decide) ?_
  refine lv_icmp_ne (tgt := 11) hx hb d_Ki_bytesBehindNames_3 (by decide) (fun c1 => ?_) (fun c1 => ?_)
  · refine lv_iconst (v := 0) hx hb d_Ki_bytesBehindNames_11 (by decide) ?_
    exact hret _ _ _ _ _ _ _ hS hP hD d_Ki_bytesBehindNames_12 nr_i (⟨by rw [k_bh, if_neg (fun e9 => c1 (by rw [e9]; rfl))] <;> rfl, rfl, rfl⟩)
  · refine lv_bipush (v := 20) hx hb d_Ki_bytesBehindNames_6 (by decide) ?_
    refine lv_goto (tgt := 12) hx hb d_Ki_bytesBehindNames_8 (by decide) ?_
    exact hret _ _ _ _ _ _ _ hS hP hD d_Ki_bytesBehindNames_12 nr_i (⟨by rw [k_bh, if_pos ((nI_eq (b := 6) (by omega) (by decide)).mp c1)] <;> rfl, rfl, rfl⟩)
set_option maxHeartbeats 4000000 in
set_option maxRecDepth 100000 in
theorem m_Ki_sharesNames (l : Launch) (D9 : va_G) (cB cI cJ cG : ClassId) (a : Nat → Nat) (O : Nat → Int64) (I : Nat → Int32) (F : Nat → Nat → Int32) (t : Nat) (ht : t < 65536) : MC l D9 cB cI cJ cG a O y_Ki_sharesNames b_Ki_sharesNames 1 (some .boolean) 1 [.int (nI t)] I F (fun v I' F' => v = some (.int (if k_sh t then 1 else 0)) ∧ I = I' ∧ F = F') := by
  refine mc_of (by decide) (Nat.le_of_ble_eq_true rfl) ?_
  intro p e s m below meth c ls A0 Q C0 hP hD hA hS hl hret
  obtain ⟨hx, hb, hml, hr, hlocks, hown, hts, hK⟩ := id C0
  have hl : lv_has ls 1 [(0, .int (nI t))] := hl
  refine lv_iload_n hx hb d_Ki_sharesNames_0 rfl (lv_at hl 0 rfl) ?_
  refine lv_bipush (v := 33) hx hb d_Ki_sharesNames_1 (by decide) ?_
  refine lv_icmp_eq (tgt := 17) hx hb d_Ki_sharesNames_3 (by decide) (fun c1 => ?_) (fun c1 => ?_)
  · refine lv_iconst (v := 0) hx hb d_Ki_sharesNames_17 (by decide) ?_
    exact hret _ _ _ _ _ _ _ hS hP hD d_Ki_sharesNames_18 (nr_z (by first | exact Or.inl rfl | exact Or.inr rfl | decide)) (⟨by rw [k_sh_b ((nI_eq (by omega) (by decide)).mp c1)] <;> rfl, rfl, rfl⟩)
  · refine lv_iload_n hx hb d_Ki_sharesNames_6 rfl (lv_at hl 0 rfl) ?_
    refine mw_cS C0 (m_Ki_namesIn l D9 cB cI cJ cG a O _ _ t ht) g_330 g_16 g_344 g_329 ⟨by decide +kernel, by decide +kernel, show Option.map (fun d => d.parameters.length) (parseMethodDescriptor y_Ki_namesIn.desc) = some 1 by decide +kernel⟩ ⟨by decide, by decide⟩ rfl rfl hP hD hS hA hl.1 (Nat.le_of_ble_eq_true rfl) rfl d_Ki_sharesNames_7 ⟨by decide, by decide⟩ (fun v9 w9 H locs hq hP hD hS => ?_)
    obtain ⟨I2, F3, hw9, q4⟩ := hq
    subst hw9
    obtain ⟨rfl, rfl, rfl⟩ := q4
    refine lv_if_le (tgt := 17) hx hb d_Ki_sharesNames_10 (by decide) (fun c5 => ?_) (fun c5 => ?_)
    · refine lv_iconst (v := 0) hx hb d_Ki_sharesNames_17 (by decide) ?_
      exact hret _ _ _ _ _ _ _ hS hP hD d_Ki_sharesNames_18 (nr_z (by first | exact Or.inl rfl | exact Or.inr rfl | decide)) (⟨by rw [k_sh_c (by rcases Nat.eq_zero_or_pos (k_nm t) with h9 | h9; exact h9; exact absurd c5 (nI_nle h9 (k_nm_lt t)))] <;> rfl, rfl, rfl⟩)
    · refine lv_iconst (v := 1) hx hb d_Ki_sharesNames_13 (by decide) ?_
      refine lv_goto (tgt := 18) hx hb d_Ki_sharesNames_14 (by decide) ?_
      exact hret _ _ _ _ _ _ _ hS hP hD d_Ki_sharesNames_18 (nr_z (by first | exact Or.inl rfl | exact Or.inr rfl | decide)) (⟨by rw [k_sh_a (fun e9 => c1 (by rw [e9]; rfl)) (by rcases Nat.eq_zero_or_pos (k_nm t) with h9 | h9; exact absurd (by rw [h9]; decide) c5; exact h9)] <;> rfl, rfl, rfl⟩)
end
section
/-! THE GATHERED PARTS AS A LIST: section, type, kind, time, the name's bytes, the data's bytes -/
abbrev En9 : Type := Nat × Nat × Nat × Int32 × List Nat × List Nat
def eS (e : En9) : Nat := e.1
def eT (e : En9) : Nat := e.2.1
def eK (e : En9) : Nat := e.2.2.1
def eL (e : En9) : Int32 := e.2.2.2.1
def eN (e : En9) : List Nat := e.2.2.2.2.1
def eD (e : En9) : List Nat := e.2.2.2.2.2
def fl : List En9 → List Nat
  | [] => []
  | e :: es => eN e ++ eD e ++ fl es
theorem fl_app (xs ys : List En9) : fl (xs ++ ys) = fl xs ++ fl ys := by
  induction xs with
  | nil => rfl
  | cons e es ih => simp [fl, ih]
theorem fl_one (e : En9) : fl [e] = eN e ++ eD e := by simp [fl]
def cn (s : Nat) : List En9 → Nat
  | [] => 0
  | e :: es => (if eS e = s then 1 else 0) + cn s es
theorem cn_app (s : Nat) (xs ys : List En9) : cn s (xs ++ ys) = cn s xs + cn s ys := by
  induction xs with
  | nil => simp [cn]
  | cons e es ih => simp only [List.cons_append, cn, ih]; omega
theorem cn_one (s : Nat) (e : En9) : cn s [e] = if eS e = s then 1 else 0 := by simp [cn]
theorem cn_le (s : Nat) (es : List En9) : cn s es ≤ es.length := by
  induction es with
  | nil => simp [cn]
  | cons e es ih => simp only [cn, List.length_cons]; split <;> omega
theorem cn_sum {es : List En9} (h : ∀ e ∈ es, eS e < 4) : cn 0 es + cn 1 es + cn 2 es + cn 3 es = es.length := by
  induction es with
  | nil => rfl
  | cons e es ih =>
    have h1 := ih (fun x hx => h x (List.mem_cons_of_mem _ hx))
    have h2 := h e List.mem_cons_self
    simp only [cn, List.length_cons]
    rcases (show eS e = 0 ∨ eS e = 1 ∨ eS e = 2 ∨ eS e = 3 by omega) with h3 | h3 | h3 | h3 <;> simp [h3] <;> omega
/-- where the part r begins -/
def of9 (es : List En9) (r : Nat) : Nat := (fl (es.take r)).length
theorem of9_le (es : List En9) (r : Nat) : of9 es r ≤ (fl es).length := by
  have h : fl es = fl (es.take r) ++ fl (es.drop r) := by rw [← fl_app, List.take_append_drop]
  unfold of9
  rw [h, List.length_append]
  omega
theorem take_app_le {α : Type} {es ys : List α} {r : Nat} (h : r ≤ es.length) : (es ++ ys).take r = es.take r := by
  rw [List.take_append_of_le_length h]
theorem of9_app {es ys : List En9} {r : Nat} (h : r ≤ es.length) : of9 (es ++ ys) r = of9 es r := by
  unfold of9; rw [take_app_le h]
theorem of9_end (es : List En9) : of9 es es.length = (fl es).length := by unfold of9; rw [List.take_length]
theorem take_get {α : Type} {es : List α} {r : Nat} {e : α} (h : es[r]? = some e) : es.take (r + 1) = es.take r ++ [e] := by
  rw [List.take_add_one, h]; rfl
theorem of9_next {es : List En9} {r : Nat} {e : En9} (h : es[r]? = some e) : of9 es (r + 1) = of9 es r + (eN e).length + (eD e).length := by
  unfold of9
  rw [take_get h, fl_app, fl_one, List.length_append, List.length_append]
  omega
theorem fl_at {es : List En9} {r : Nat} {e : En9} (h : es[r]? = some e) {j : Nat} (hj : j < (eN e ++ eD e).length) : (fl es)[of9 es r + j]? = (eN e ++ eD e)[j]? := by
  have h1 : fl es = fl (es.take r) ++ ((eN e ++ eD e) ++ fl (es.drop (r + 1))) := by
    rw [← fl_one e, ← fl_app, ← fl_app]
    congr 1
    have h2 := List.take_append_drop r es
    rw [List.drop_eq_getElem_cons (List.getElem?_eq_some_iff.mp h).1] at h2
    rw [← (List.getElem?_eq_some_iff.mp h).2]
    exact h2.symm
  rw [h1, List.getElem?_append_right (by unfold of9; omega)]
  unfold of9
  rw [Nat.add_sub_cancel_left, List.getElem?_append_left hj]
/-- the k-th part of a section -/
def ix (s : Nat) : Nat → List En9 → Option Nat
  | _, [] => none
  | k, e :: es => if eS e = s then (match k with | 0 => some 0 | k + 1 => (ix s k es).map (· + 1)) else (ix s k es).map (· + 1)
theorem ix_some {s : Nat} : ∀ {es : List En9} {k r : Nat}, ix s k es = some r → ∃ e, es[r]? = some e ∧ eS e = s ∧ cn s (es.take r) = k
  | [], k, r, h => by simp [ix] at h
  | e :: es, k, r, h => by
    unfold ix at h
    split at h
    · rename_i h1
      cases k with
      | zero => simp only [Option.some.injEq] at h; subst h; exact ⟨e, rfl, h1, rfl⟩
      | succ k =>
        obtain ⟨r', h2, rfl⟩ := Option.map_eq_some_iff.mp h
        obtain ⟨e', a1, a2, a3⟩ := ix_some h2
        exact ⟨e', by simpa using a1, a2, by simp only [List.take_succ_cons, cn, h1, if_true, a3]; omega⟩
    · rename_i h1
      obtain ⟨r', h2, rfl⟩ := Option.map_eq_some_iff.mp h
      obtain ⟨e', a1, a2, a3⟩ := ix_some h2
      exact ⟨e', by simpa using a1, a2, by simp only [List.take_succ_cons, cn, h1, if_false, a3]; omega⟩
theorem ix_none {s : Nat} : ∀ {es : List En9} {k : Nat}, ix s k es = none → cn s es ≤ k
  | [], k, _ => Nat.zero_le _
  | e :: es, k, h => by
    unfold ix at h
    split at h
    · rename_i h1
      cases k with
      | zero => cases h
      | succ k =>
        have := ix_none (Option.map_eq_none_iff.mp h)
        simp only [cn, h1, if_true]; omega
    · rename_i h1
      have := ix_none (Option.map_eq_none_iff.mp h)
      simp only [cn, h1, if_false]; omega
theorem ix_of {s : Nat} : ∀ {es : List En9} {k r : Nat} {e : En9}, es[r]? = some e → eS e = s → cn s (es.take r) = k → ix s k es = some r
  | [], k, r, e, h, _, _ => by simp at h
  | e :: es, k, 0, e', h, h2, h3 => by
    simp only [List.getElem?_cons_zero, Option.some.injEq] at h
    subst h
    simp only [List.take_zero, cn] at h3
    subst h3
    simp [ix, h2]
  | e :: es, k, r + 1, e', h, h2, h3 => by
    simp only [List.getElem?_cons_succ] at h
    simp only [List.take_succ_cons, cn] at h3
    unfold ix
    by_cases h1 : eS e = s
    · rw [if_pos h1]
      rw [if_pos h1] at h3
      cases k with
      | zero => omega
      | succ k => show (ix s k es).map (· + 1) = some (r + 1); rw [ix_of (k := k) h h2 (by omega)]; rfl
    · rw [if_neg h1]
      rw [if_neg h1] at h3
      rw [ix_of h h2 (by omega)]; rfl
theorem ix_lt {s : Nat} {es : List En9} {k r : Nat} (h : ix s k es = some r) : r < es.length ∧ k < cn s es := by
  obtain ⟨e, h1, h2, h3⟩ := ix_some h
  have hr := (List.getElem?_eq_some_iff.mp h1).1
  refine ⟨hr, ?_⟩
  have h4 : cn s es = cn s (es.take (r + 1)) + cn s (es.drop (r + 1)) := by rw [← cn_app, List.take_append_drop]
  rw [take_get h1, cn_app, cn_one, if_pos h2] at h4
  omega
theorem ix_ex {s : Nat} {es : List En9} {k : Nat} (h : k < cn s es) : ∃ r, ix s k es = some r := by
  cases h1 : ix s k es with
  | none => have := ix_none h1; omega
  | some r => exact ⟨r, rfl⟩
/-- what is gathered is of the right size -/
def okE (es : List En9) : Prop := cn 0 es ≤ 100 ∧ cn 1 es + cn 2 es + cn 3 es ≤ 1000 ∧ (fl es).length ≤ 65536 ∧ ∀ e ∈ es, eS e < 4 ∧ eT e < 65536 ∧ eK e < 65536
theorem okE_len {es : List En9} (h : okE es) : es.length = cn 0 es + cn 1 es + cn 2 es + cn 3 es ∧ es.length ≤ 1100 := by
  have := cn_sum (fun e he => (h.2.2.2 e he).1)
  have h1 := h.1
  have h2 := h.2.1
  omega
theorem okE_nil : okE [] := ⟨by decide, by decide, by decide, fun e h => by cases h⟩
end
section
/-! THE LAYER over the one world: named states, lists of bytes in rows -/
theorem lv_topq {p : Program} {l : Launch} {e : Env} {R : Room} {s : State} {m : MethodId} {args : Array Value} {below : List Frame} {meth : Method} {c : Code} {H : Heap} {locs : List Loc} {cells slots : Nat} {Q : State → Prop} {pc : Nat} {ls : Array Slot} {rest : List Value} {x y : Int32} (h : x = y) (k : W p l e R s m args below meth c H locs cells slots Q (F0 m pc ls (.int y :: rest))) : W p l e R s m args below meth c H locs cells slots Q (F0 m pc ls (.int x :: rest)) := by
  rw [h]; exact k
theorem va_aldG {p : Program} {l : Launch} {e : Env} {R : Room} {s : State} {m : MethodId} {args : Array Value} {below : List Frame} {meth : Method} {c : Code} {H : Heap} {locs : List Loc} {cells slots : Nat} {Q : State → Prop} {pc : Nat} {ls : Array Slot} {rest : List Value} {cc : ByteArray} {D : va_G} {cl : List vw_C} {tys : List (ClassId × FieldType)} {ws : va_W} {a : Nat} (hexec : p.tables.exec = Jvm.exec) (hb : c.code = cc) (hK : va_K D cl tys s) (hP : va_P D cl ws H) (q0 t0 : Nat) {cA : ClassId} {n : Nat} {f : Nat → Option Nat} (ha : ws[q0]? = some (a, .inl (cA, n, .inr (.inr (.inr (.inr f)))))) (ht : tys[t0]? = some (cA, .array .int)) {i : Int32} (hin : vp_in i n) (hdg : decode cc pc = .ok (.aaload, 1))
    (kk : W p l e R s m args below meth c H locs cells slots Q (F0 m (pc + 1) ls (va_rf (f i.toNatClampNeg) :: rest))) : W p l e R s m args below meth c H locs cells slots Q (F0 m pc ls (.int i :: .ref a :: rest)) := by
  have hlt : i.toNatClampNeg < n := Nat.not_le.mp fun q => hin (Or.inr q)
  exact W.aald (v := va_rf (f i.toNatClampNeg)) (ty := .array .int) hexec hb (hP q0 _ ha) ((hK.2 t0 _ ht).1 n (fun j => va_rf (f j))) rfl (fun q => by cases q) (by show ¬ (i < 0 ∨ (arrV _ _ _).slots.size ≤ _); rw [arrV_size]; exact hin) (by show (arrV _ _ _).slots[_]? = _; rw [arrV_read _ _ hlt]) rfl rfl hdg kk
theorem va_rf4 {a : Nat → Nat} {s : Nat} (h : s < 4) : va_rf (if s < 4 then some (a (12 + s)) else none) = .ref (a (12 + s)) := by rw [if_pos h]; rfl
theorem lt4 {s : Nat} (h : s < 4) : s = 0 ∨ s = 1 ∨ s = 2 ∨ s = 3 := by omega
theorem rw_ne {k s : Nat} (h : s < 4) (h2 : k < 12 ∨ 15 < k := by decide) : k ∉ [12 + s] := by simp; omega
theorem row_in {s : Nat} {M : List Nat} (h : s < 4) (hM : 12 ∈ M ∧ 13 ∈ M ∧ 14 ∈ M ∧ 15 ∈ M) : ∀ k ∈ [12 + s], k ∈ M := by
  intro k hk
  rcases lt4 h with rfl | rfl | rfl | rfl <;> simp at hk <;> subst hk
  · exact hM.1
  · exact hM.2.1
  · exact hM.2.2.1
  · exact hM.2.2.2
section WRW
variable {a : Nat → Nat} {cB cI cJ cG : ClassId} {I : Nat → Int32} {F : Nat → Nat → Int32} {O : Nat → Int64} {D : va_G} {cl : List vw_C} {H : Heap} {A : Nat → Prop} {s : Nat}
theorem ww_row (h : s < 4) : (WW a cB cI cJ cG I F O)[12 + s]? = some (a (12 + s), .inl (cI, 1000, .inl (F (12 + s)))) := by
  rcases lt4 h with rfl | rfl | rfl | rfl <;> rfl
theorem wpa_row {f : Nat → Int32} (h : s < 4) (hP : va_P D cl ((WW a cB cI cJ cG I F O).set (12 + s) (a (12 + s), .inl (cI, 1000, .inl f))) H) : va_P D cl (WW a cB cI cJ cG I (uf F (12 + s) f) O) H := by
  rcases lt4 h with rfl | rfl | rfl | rfl
  · exact wpa_12 hP
  · exact wpa_13 hP
  · exact wpa_14 hP
  · exact wpa_15 hP
theorem wda_row {f : Nat → Int32} (h : s < 4) (hP : va_D A ((WW a cB cI cJ cG I F O).set (12 + s) (a (12 + s), .inl (cI, 1000, .inl f)))) : va_D A (WW a cB cI cJ cG I (uf F (12 + s) f) O) := by
  rcases lt4 h with rfl | rfl | rfl | rfl
  · exact wda_12 hP
  · exact wda_13 hP
  · exact wda_14 hP
  · exact wda_15 hP
end WRW
theorem fx {α : Type} {P : (Nat → α) → Prop} {F : Nat → α} {k : Nat} {f : α} (h : P (uf F k f)) : ∃ F', F' k = f ∧ sm [k] F F' ∧ P F' := ⟨_, uf_s, sm_up sm_rf List.mem_cons_self, h⟩
theorem lv_pk {ls : Array Slot} {nL : Nat} {L L' : List (Nat × Value)} (h : lv_has ls nL L) (js : List Nat) (hs : js.map (fun i => L[i]?) = L'.map some) : lv_has ls nL L' := ⟨h.1, h.2.1, fun q hq => by
  have h1 : some q ∈ js.map (fun i => L[i]?) := by rw [hs]; exact List.mem_map.mpr ⟨q, hq, rfl⟩
  obtain ⟨i, -, h2⟩ := List.mem_map.mp h1
  exact lv_at h i (i := q.1) (v := q.2) h2⟩
theorem ii_d {n : Nat} (h : 0 < n) : nI n + Int32.ofInt (-1) = nI (n - 1) := sb_m1 h
def bI (b : Bool) : Int32 := if b then 1 else 0
theorem bI_f {b : Bool} (h : bI b = 0) : b = false := by cases b; rfl; exact absurd h (by decide)
theorem bI_t {b : Bool} (h : ¬ bI b = 0) : b = true := by cases b; exact absurd rfl h; rfl
theorem bI_01 (b : Bool) : bI b = 0 ∨ bI b = 1 := by cases b; exact Or.inl rfl; exact Or.inr rfl
/-- the row f holds the list L, from place c on, below place n -/
def BR (c n : Nat) (f : Nat → Int32) (L : List Nat) : Prop := sb_Fit f ∧ ∀ i b, L[i]? = some b → c ≤ i → i < n → ub (f i) = b
def tb (t : List Nat) (i : Nat) : Nat := t.getD i 0
theorem tb_in {t : List Nat} {i : Nat} (h : i < t.length) : t[i]? = some (tb t i) := by
  unfold tb; rw [List.getD_eq_getElem?_getD, List.getElem?_eq_getElem h]; rfl
theorem BR_tb {c n : Nat} {f : Nat → Int32} {t : List Nat} (h : BR c n f t) {i : Nat} (hi : i < t.length) (hc : c ≤ i) (hn : i < n) : ub (f i) = tb t i := h.2 i _ (tb_in hi) hc hn
theorem BR_bn {f : Nat → Int32} {t : List Nat} (h : BR 0 65536 f t) {i : Nat} (hi : i < t.length) (hn : t.length ≤ 65536) : bn f i = tb t i := by
  rw [bn, if_pos (by omega)]; exact BR_tb h hi (Nat.zero_le _) (by omega)
theorem BR_lt {c n : Nat} {f : Nat → Int32} {t : List Nat} (h : BR c n f t) {i : Nat} (hi : i < t.length) (hc : c ≤ i) (hn : i < n) : tb t i < 256 := by
  rw [← BR_tb h hi hc hn]; exact ub_lt _
theorem BR_pre {c n : Nat} {f : Nat → Int32} {L M : List Nat} (h : BR c n f (L ++ M)) : BR c n f L := ⟨h.1, fun i b hb => h.2 i b (by
  rw [List.getElem?_append_left (List.getElem?_eq_some_iff.mp hb).1]; exact hb)⟩
theorem BR_nil {c n : Nat} {f : Nat → Int32} (h : sb_Fit f) : BR c n f [] := ⟨h, fun i b hb => by simp at hb⟩
theorem BR_bt {f : Nat → Int32} {t : List Nat} (h : BR 0 65536 f t) {i : Nat} (hi : i < t.length) (hn : t.length ≤ 65536) : bt f (nI i) = nI (tb t i) := by
  rw [bt_bn (by omega), BR_bn h hi hn]
theorem mod_256 (w : Int32) : (w.toBitVec.toNat : Int) % 256 = w.toInt % 256 := by
  have h : w.toInt = w.toBitVec.toInt := rfl
  rw [h, BitVec.toInt_eq_toNat_cond]
  split <;> omega
/-- one byte more -/
theorem BR_put {c n : Nat} {f : Nat → Int32} {L : List Nat} {x : Int32} (h : BR c n f L) : BR c n (upd f L.length x.toInt8.toInt32) (L ++ [ub x]) := by
  refine ⟨sb_fitU h.1 (pk_fb x), ?_⟩
  intro i b hb hc hn
  by_cases hi : i < L.length
  · rw [pk_un (by omega)]
    rw [List.getElem?_append_left hi] at hb
    exact h.2 i b hb hc hn
  · have h2 := (List.getElem?_eq_some_iff.mp hb).1
    rw [List.length_append, List.length_singleton] at h2
    have h3 : i = L.length := by omega
    subst h3
    rw [List.getElem?_append_right (Nat.le_refl _), Nat.sub_self] at hb
    simp only [List.getElem?_cons_zero, Option.some.injEq] at hb
    rw [pk_us, ← hb]
    unfold ub
    have h4 : (x.toInt8.toInt32).toBitVec.toNat % 256 = x.toBitVec.toNat % 256 := by
      have e1 := mod_256 x
      have e2 := mod_256 x.toInt8.toInt32
      rw [Int8.toInt_toInt32, Int32.toInt_toInt8] at e2
      have e3 : Int.bmod x.toInt 256 % 256 = x.toInt % 256 := by
        unfold Int.bmod; simp only; split <;> omega
      have e4 : Int.bmod x.toInt (2 ^ 8) % 256 = x.toInt % 256 := e3
      omega
    exact h4
theorem BR_bset {c : Nat} {f : Nat → Int32} {L : List Nat} {x : Int32} (h : BR c 65536 f L) (hL : L.length < 2 ^ 31) : BR c 65536 (bset f (nI L.length) x) (L ++ [ub x]) := by
  by_cases hi : L.length < 65536
  · rw [bset_in hi]; exact BR_put h
  · rw [bset_out (by omega) hL]
    refine ⟨h.1, ?_⟩
    intro i b hb hc hn
    rw [List.getElem?_append_left (by omega)] at hb
    exact h.2 i b hb hc hn
theorem BR_eq {c n : Nat} {f g : Nat → Int32} {L : List Nat} (h : BR c n f L) (e : g = f) : BR c n g L := by rw [e]; exact h
/-- a copy from another row -/
def sl9 (t : List Nat) (p k : Nat) : List Nat := (t.drop p).take k
theorem sl9_len {t : List Nat} {p k : Nat} (h : p + k ≤ t.length) : (sl9 t p k).length = k := by
  unfold sl9; rw [List.length_take, List.length_drop]; omega
theorem sl9_get {t : List Nat} {p k i : Nat} (h : i < k) : (sl9 t p k)[i]? = t[p + i]? := by
  unfold sl9; rw [List.getElem?_take_of_lt h, List.getElem?_drop]
/-- the class's rows hold es -/
def GaR (F : Nat → Nat → Int32) (es : List En9) : Prop :=
  (∀ r e, es[r]? = some e → F 5 r = nI (of9 es r) ∧ F 6 r = nI (eN e).length ∧ F 7 r = nI (eD e).length ∧ F 8 r = nI (eT e) ∧ F 9 r = nI (eK e) ∧ F 10 r = eL e ∧ F (12 + eS e) (cn (eS e) (es.take r)) = nI r) ∧ (∀ s, s < 4 → F 16 s = nI (cn s es)) ∧ BR 0 65536 (F 4) (fl es)
/-- the reference's rows hold es -/
def MoR (F : Nat → Nat → Int32) (es : List En9) : Prop :=
  (∀ r e, es[r]? = some e → F 36 r = nI (eS e) ∧ F 37 r = nI (eT e) ∧ F 38 r = nI (eK e) ∧ F 39 r = eL e ∧ F 40 r = nI (of9 es r) ∧ F 41 r = nI (eN e).length ∧ F 42 r = nI (of9 es r + (eN e).length) ∧ F 43 r = nI (eD e).length) ∧ BR 0 140000 (F 35) (fl es)
end
section
/-! WHAT IS GATHERED -/
def hp (s : Nat) (es : List En9) : Bool := if s = 0 then decide (cn 0 es < 100) else decide (cn 1 es + cn 2 es + cn 3 es < 1000)
theorem hp_t {s : Nat} {es : List En9} (h : hp s es = true) : (s = 0 → cn 0 es < 100) ∧ (s ≠ 0 → cn 1 es + cn 2 es + cn 3 es < 1000) := by
  unfold hp at h; split at h <;> simp at h <;> omega
theorem hp_f {s : Nat} {es : List En9} (h : hp s es = false) : (s = 0 → 100 ≤ cn 0 es) ∧ (s ≠ 0 → 1000 ≤ cn 1 es + cn 2 es + cn 3 es) := by
  unfold hp at h; split at h <;> simp at h <;> omega
theorem fl_add (es : List En9) (x : En9) : fl (es ++ [x]) = fl es ++ (eN x ++ eD x) := by rw [fl_app, fl_one]
theorem okE_add {es : List En9} {x : En9} (h : okE es) (hs : eS x < 4) (ht : eT x < 65536) (hk : eK x < 65536) : okE (es ++ [x]) ↔ hp (eS x) es = true ∧ (fl es ++ (eN x ++ eD x)).length ≤ 65536 := by
  have h1 := h.1
  have h2 := h.2.1
  unfold okE
  rw [fl_add]
  simp only [cn_app, cn_one]
  constructor
  · intro q
    refine ⟨?_, q.2.2.1⟩
    have q1 := q.1
    have q2 := q.2.1
    cases hh : hp (eS x) es with
    | true => rfl
    | false =>
      have := hp_f hh
      rcases lt4 hs with e | e | e | e <;> simp [e] at q1 q2 this <;> omega
  · intro q
    have := hp_t q.1
    refine ⟨?_, ?_, q.2, ?_⟩
    · rcases lt4 hs with e | e | e | e <;> simp [e] at this ⊢ <;> omega
    · rcases lt4 hs with e | e | e | e <;> simp [e] at this ⊢ <;> omega
    · intro e he
      rcases List.mem_append.mp he with he | he
      · exact h.2.2.2 e he
      · rw [List.mem_singleton] at he; subst he; exact ⟨hs, ht, hk⟩
/-- one entry more, in the class's rows -/
theorem GaR_add {F F' : Nat → Nat → Int32} {es : List En9} {x : En9} (h : GaR F es) (hB : BR 0 65536 (F 4) (fl es ++ (eN x ++ eD x))) (hs : eS x < 4)
    (e4 : F' 4 = F 4) (e5 : F' 5 = upd (F 5) es.length (nI (fl es).length)) (e6 : F' 6 = upd (F 6) es.length (nI (eN x).length)) (e7 : F' 7 = upd (F 7) es.length (nI (eD x).length)) (e8 : F' 8 = upd (F 8) es.length (nI (eT x))) (e9 : F' 9 = upd (F 9) es.length (nI (eK x))) (e10 : F' 10 = upd (F 10) es.length (eL x)) (e16 : F' 16 = upd (F 16) (eS x) (nI (cn (eS x) es + 1)))
    (er : F' (12 + eS x) = upd (F (12 + eS x)) (cn (eS x) es) (nI es.length)) (ez : ∀ s, s < 4 → s ≠ eS x → F' (12 + s) = F (12 + s)) (hS : ∀ e ∈ es, eS e < 4) : GaR F' (es ++ [x]) := by
  refine ⟨?_, ?_, ?_⟩
  · intro r e hr
    by_cases hi : r < es.length
    · rw [List.getElem?_append_left hi] at hr
      obtain ⟨a1, a2, a3, a4, a5, a6, a7⟩ := h.1 r e hr
      have hes := hS e (List.mem_of_getElem? hr)
      rw [e5, e6, e7, e8, e9, e10, pk_un (by omega), pk_un (by omega), pk_un (by omega), pk_un (by omega), pk_un (by omega), pk_un (by omega), of9_app (by omega), take_app_le (by omega)]
      refine ⟨a1, a2, a3, a4, a5, a6, ?_⟩
      by_cases hq : eS e = eS x
      · rw [hq, er, pk_un, ← hq]
        · exact a7
        · have h1 := ix_of hr hq rfl
          have h2 := (ix_lt h1).2
          omega
      · rw [ez _ hes hq]; exact a7
    · have h2 := (List.getElem?_eq_some_iff.mp hr).1
      rw [List.length_append, List.length_singleton] at h2
      have h3 : r = es.length := by omega
      subst h3
      rw [List.getElem?_append_right (Nat.le_refl _), Nat.sub_self] at hr
      simp only [List.getElem?_cons_zero, Option.some.injEq] at hr
      subst hr
      rw [e5, e6, e7, e8, e9, e10, er, pk_us, pk_us, pk_us, pk_us, pk_us, pk_us, of9_app (Nat.le_refl _), of9_end, take_app_le (Nat.le_refl _), List.take_length, pk_us]
      exact ⟨rfl, rfl, rfl, rfl, rfl, rfl, rfl⟩
  · intro s hs4
    rw [e16, cn_app, cn_one]
    by_cases hq : s = eS x
    · subst hq; rw [pk_us, if_pos rfl]
    · rw [pk_un hq, h.2.1 s hs4, if_neg (fun z => hq z.symm), Nat.add_zero]
  · rw [fl_add, e4]; exact hB
/-- the entries of a section -/
def fil (s : Nat) (es : List En9) : List En9 := es.filter (fun e => eS e == s)
theorem fil_len (s : Nat) (es : List En9) : (fil s es).length = cn s es := by
  unfold fil
  induction es with
  | nil => rfl
  | cons e es ih =>
    rw [List.filter_cons, cn]
    by_cases h : eS e = s
    · simp [h, ih]; omega
    · simp [h, ih]
theorem ix_fil {s : Nat} : ∀ {es : List En9} {k r : Nat} {e : En9}, ix s k es = some r → es[r]? = some e → (fil s es)[k]? = some e
  | [], k, r, e, h, _ => by simp [ix] at h
  | e0 :: es, k, r, e, h, h2 => by
    unfold ix at h
    unfold fil
    rw [List.filter_cons]
    split at h
    · rename_i h1
      rw [if_pos (by simp [h1])]
      cases k with
      | zero => simp only [Option.some.injEq] at h; subst h; simpa using h2
      | succ k =>
        obtain ⟨r', h3, rfl⟩ := Option.map_eq_some_iff.mp h
        rw [List.getElem?_cons_succ] at h2 ⊢
        exact ix_fil h3 h2
    · rename_i h1
      rw [if_neg (by simp [h1])]
      obtain ⟨r', h3, rfl⟩ := Option.map_eq_some_iff.mp h
      rw [List.getElem?_cons_succ] at h2
      exact ix_fil h3 h2
theorem GaR_row {F : Nat → Nat → Int32} {es : List En9} (h : GaR F es) {s k : Nat} (hk : k < cn s es) : ∃ r e, ix s k es = some r ∧ es[r]? = some e ∧ eS e = s ∧ (fil s es)[k]? = some e ∧ F (12 + s) k = nI r ∧ r < es.length := by
  obtain ⟨r, hr⟩ := ix_ex hk
  obtain ⟨e, a1, a2, a3⟩ := ix_some hr
  refine ⟨r, e, hr, a1, a2, ix_fil hr a1, ?_, (ix_lt hr).1⟩
  have := (h.1 r e a1).2.2.2.2.2.2
  rw [a2, a3] at this
  exact this
/-- a row by two numbers as they come -/
def rI (x y : Int32) (es : List En9) : Option Nat := if x < 0 ∨ 4 ≤ x ∨ y < 0 then none else ix x.toNatClampNeg y.toNatClampNeg es
def oI (o : Option Nat) : Int32 := match o with
  | some r => nI r
  | none => -1
theorem rI_n {s k : Nat} {es : List En9} (hs : s < 4) (hk : k < 2 ^ 31) : rI (nI s) (nI k) es = ix s k es := by
  unfold rI
  rw [if_neg, nI_clamp (by omega), nI_clamp hk]
  rintro (h | h | h)
  · exact nI_pos (by omega) h
  · exact nI_ge (b := 4) hs (by decide) h
  · exact nI_pos hk h
/-- what is never left out takes so much -/
def mu3 : List En9 → Nat
  | [] => 0
  | e :: es => (if eT e = 41 then 11 + (eD e).length else 0) + mu3 es
theorem mu3_app (xs ys : List En9) : mu3 (xs ++ ys) = mu3 xs + mu3 ys := by
  induction xs with
  | nil => simp [mu3]
  | cons e es ih => simp only [List.cons_append, mu3, ih]; omega
theorem mu3_next {es : List En9} {k : Nat} {e : En9} (h : es[k]? = some e) : mu3 (es.take (k + 1)) = mu3 (es.take k) + (if eT e = 41 then 11 + (eD e).length else 0) := by
  rw [take_get h, mu3_app]; simp [mu3]
theorem mu3_le (es : List En9) : mu3 es ≤ 11 * es.length + (fl es).length := by
  induction es with
  | nil => simp [mu3]
  | cons e es ih =>
    simp only [mu3, List.length_cons, fl, List.length_append]
    split <;> omega
theorem fl_fil (s : Nat) (es : List En9) : (fl (fil s es)).length ≤ (fl es).length := by
  unfold fil
  induction es with
  | nil => simp
  | cons e es ih =>
    rw [List.filter_cons]
    split
    · simp only [fl, List.length_append]; omega
    · simp only [fl, List.length_append]; omega
theorem mu3_bd {es : List En9} (h : okE es) : mu3 (fil 3 es) ≤ 76536 := by
  have h1 := mu3_le (fil 3 es)
  have h2 := fl_fil 3 es
  have h3 := h.2.1
  have h4 := h.2.2.1
  rw [fil_len] at h1
  omega
theorem GaR_nil {F : Nat → Nat → Int32} (h : BR 0 65536 (F 4) []) (h2 : ∀ s, s < 4 → F 16 s = nI 0) : GaR F [] := ⟨fun r e hr => by simp at hr, h2, h⟩
theorem sz0 {f : Nat → Int32} {s : Nat} (h : s < 4) : upd (upd (upd (upd f 0 (nI 0)) 1 (nI 0)) 2 (nI 0)) 3 (nI 0) s = nI 0 := by
  rcases lt4 h with rfl | rfl | rfl | rfl <;> rfl
theorem g_37 : (Cond.fieldLinkNest "WireMessages$Gathered" (52 : Nat) "WireMessages$Bytes" "length" "I" "WireMessages") ∈ GT := gt_mem 37 (by decide +kernel) rfl
theorem g_84 : (Cond.fieldLink "WireMessages$Gathered" (45 : Nat) "WireMessages$Gathered" "id" "I") ∈ GT := gt_mem 84 (by decide +kernel) rfl
theorem g_87 : (Cond.fieldLink "WireMessages$Gathered" (49 : Nat) "WireMessages$Gathered" "flags" "I") ∈ GT := gt_mem 87 (by decide +kernel) rfl
theorem g_311 : (Cond.constant "WireMessages$Gathered" (59 : Nat) (65536 : Int32)) ∈ GT := gt_mem 311 (by decide +kernel) rfl
theorem g_312 : (Cond.methodLink "WireMessages$Gathered" (60 : Nat) ({ cls := "WireMessages$Gathered", name := "hasPlaceIn", desc := "(I)Z" } : MethodName)) ∈ GT := gt_mem 312 (by decide +kernel) rfl
theorem g_314 : (Cond.instanceMethod ({ cls := "WireMessages$Gathered", name := "hasPlaceIn", desc := "(I)Z" } : MethodName)) ∈ GT := gt_mem 314 (by decide +kernel) rfl
theorem g_315 : (Cond.code ({ cls := "WireMessages$Gathered", name := "hasPlaceIn", desc := "(I)Z" } : MethodName) prog_4_method_4_code (2 : Nat) (Option.some FieldType.boolean)) ∈ GT := gt_mem 315 (by decide +kernel) rfl
theorem g_316 : (Cond.methodLink "WireMessages$Gathered" (55 : Nat) ({ cls := "WireMessages$Gathered", name := "records", desc := "()I" } : MethodName)) ∈ GT := gt_mem 316 (by decide +kernel) rfl
theorem g_318 : (Cond.instanceMethod ({ cls := "WireMessages$Gathered", name := "records", desc := "()I" } : MethodName)) ∈ GT := gt_mem 318 (by decide +kernel) rfl
theorem g_319 : (Cond.code ({ cls := "WireMessages$Gathered", name := "records", desc := "()I" } : MethodName) prog_4_method_3_code (1 : Nat) (Option.some FieldType.int)) ∈ GT := gt_mem 319 (by decide +kernel) rfl
theorem g_536 : (Cond.methodLink "WireMessages$Gathered" (66 : Nat) ({ cls := "WireMessages$Gathered", name := "isNeverLeftOut", desc := "(II)Z" } : MethodName)) ∈ GT := gt_mem 536 (by decide +kernel) rfl
theorem g_538 : (Cond.instanceMethod ({ cls := "WireMessages$Gathered", name := "isNeverLeftOut", desc := "(II)Z" } : MethodName)) ∈ GT := gt_mem 538 (by decide +kernel) rfl
theorem g_539 : (Cond.code ({ cls := "WireMessages$Gathered", name := "isNeverLeftOut", desc := "(II)Z" } : MethodName) prog_4_method_7_code (3 : Nat) (Option.some FieldType.boolean)) ∈ GT := gt_mem 539 (by decide +kernel) rfl
theorem g_540 : (Cond.methodLink "WireMessages$Gathered" (70 : Nat) ({ cls := "WireMessages$Gathered", name := "lengthUnderRoot", desc := "(I)I" } : MethodName)) ∈ GT := gt_mem 540 (by decide +kernel) rfl
theorem g_542 : (Cond.instanceMethod ({ cls := "WireMessages$Gathered", name := "lengthUnderRoot", desc := "(I)I" } : MethodName)) ∈ GT := gt_mem 542 (by decide +kernel) rfl
theorem g_543 : (Cond.code ({ cls := "WireMessages$Gathered", name := "lengthUnderRoot", desc := "(I)I" } : MethodName) prog_4_method_8_code (2 : Nat) (Option.some FieldType.int)) ∈ GT := gt_mem 543 (by decide +kernel) rfl
theorem gs_Ga_records : Cond.selects R_Ga y_Ga_records y_Ga_records ∈ GT := gt_sel (q := (⟨"WireMessages$Gathered", "records", "()I"⟩, 11)) (by decide +kernel)
theorem gs_Ga_hasPlaceIn : Cond.selects R_Ga y_Ga_hasPlaceIn y_Ga_hasPlaceIn ∈ GT := gt_sel (q := (⟨"WireMessages$Gathered", "hasPlaceIn", "(I)Z"⟩, 11)) (by decide +kernel)
theorem gs_Ga_isNeverLeftOut : Cond.selects R_Ga y_Ga_isNeverLeftOut y_Ga_isNeverLeftOut ∈ GT := gt_sel (q := (⟨"WireMessages$Gathered", "isNeverLeftOut", "(II)Z"⟩, 11)) (by decide +kernel)
theorem gs_Ga_lengthUnderRoot : Cond.selects R_Ga y_Ga_lengthUnderRoot y_Ga_lengthUnderRoot ∈ GT := gt_sel (q := (⟨"WireMessages$Gathered", "lengthUnderRoot", "(I)I"⟩, 11)) (by decide +kernel)
theorem d_Ga_bytesNeverLeftOut_0 : decode b_Ga_bytesNeverLeftOut 0 = .ok (.iconst 0, 1) := by decide +kernel
theorem d_Ga_bytesNeverLeftOut_1 : decode b_Ga_bytesNeverLeftOut 1 = .ok (.istore_n 1, 1) := by decide +kernel
theorem d_Ga_bytesNeverLeftOut_2 : decode b_Ga_bytesNeverLeftOut 2 = .ok (.iconst 0, 1) := by decide +kernel
theorem d_Ga_bytesNeverLeftOut_3 : decode b_Ga_bytesNeverLeftOut 3 = .ok (.istore_n 2, 1) := by decide +kernel
theorem d_Ga_bytesNeverLeftOut_4 : decode b_Ga_bytesNeverLeftOut 4 = .ok (.iload_n 2, 1) := by decide +kernel
theorem d_Ga_bytesNeverLeftOut_5 : decode b_Ga_bytesNeverLeftOut 5 = .ok (.aload_n 0, 1) := by decide +kernel
theorem d_Ga_bytesNeverLeftOut_6 : decode b_Ga_bytesNeverLeftOut 6 = .ok (.getfield 42, 3) := by decide +kernel
theorem d_Ga_bytesNeverLeftOut_9 : decode b_Ga_bytesNeverLeftOut 9 = .ok (.iconst 3, 1) := by decide +kernel
theorem d_Ga_bytesNeverLeftOut_10 : decode b_Ga_bytesNeverLeftOut 10 = .ok (.iaload, 1) := by decide +kernel
theorem d_Ga_bytesNeverLeftOut_11 : decode b_Ga_bytesNeverLeftOut 11 = .ok (.if_icmp .ge 35, 3) := by decide +kernel
theorem d_Ga_bytesNeverLeftOut_14 : decode b_Ga_bytesNeverLeftOut 14 = .ok (.aload_n 0, 1) := by decide +kernel
theorem d_Ga_bytesNeverLeftOut_15 : decode b_Ga_bytesNeverLeftOut 15 = .ok (.getfield 39, 3) := by decide +kernel
theorem d_Ga_bytesNeverLeftOut_18 : decode b_Ga_bytesNeverLeftOut 18 = .ok (.iconst 3, 1) := by decide +kernel
theorem d_Ga_bytesNeverLeftOut_19 : decode b_Ga_bytesNeverLeftOut 19 = .ok (.aaload, 1) := by decide +kernel
theorem d_Ga_bytesNeverLeftOut_20 : decode b_Ga_bytesNeverLeftOut 20 = .ok (.iload_n 2, 1) := by decide +kernel
theorem d_Ga_bytesNeverLeftOut_21 : decode b_Ga_bytesNeverLeftOut 21 = .ok (.iaload, 1) := by decide +kernel
theorem d_Ga_bytesNeverLeftOut_22 : decode b_Ga_bytesNeverLeftOut 22 = .ok (.istore_n 3, 1) := by decide +kernel
theorem d_Ga_bytesNeverLeftOut_23 : decode b_Ga_bytesNeverLeftOut 23 = .ok (.aload_n 0, 1) := by decide +kernel
theorem d_Ga_bytesNeverLeftOut_24 : decode b_Ga_bytesNeverLeftOut 24 = .ok (.iconst 3, 1) := by decide +kernel
theorem d_Ga_bytesNeverLeftOut_25 : decode b_Ga_bytesNeverLeftOut 25 = .ok (.iload_n 3, 1) := by decide +kernel
theorem d_Ga_bytesNeverLeftOut_26 : decode b_Ga_bytesNeverLeftOut 26 = .ok (.invokevirtual 66, 3) := by decide +kernel
theorem d_Ga_bytesNeverLeftOut_29 : decode b_Ga_bytesNeverLeftOut 29 = .ok (.ifCond .eq 11, 3) := by decide +kernel
theorem d_Ga_bytesNeverLeftOut_32 : decode b_Ga_bytesNeverLeftOut 32 = .ok (.iload_n 1, 1) := by decide +kernel
theorem d_Ga_bytesNeverLeftOut_33 : decode b_Ga_bytesNeverLeftOut 33 = .ok (.aload_n 0, 1) := by decide +kernel
theorem d_Ga_bytesNeverLeftOut_34 : decode b_Ga_bytesNeverLeftOut 34 = .ok (.iload_n 3, 1) := by decide +kernel
theorem d_Ga_bytesNeverLeftOut_35 : decode b_Ga_bytesNeverLeftOut 35 = .ok (.invokevirtual 70, 3) := by decide +kernel
theorem d_Ga_bytesNeverLeftOut_38 : decode b_Ga_bytesNeverLeftOut 38 = .ok (.iadd, 1) := by decide +kernel
theorem d_Ga_bytesNeverLeftOut_39 : decode b_Ga_bytesNeverLeftOut 39 = .ok (.istore_n 1, 1) := by decide +kernel
theorem d_Ga_bytesNeverLeftOut_40 : decode b_Ga_bytesNeverLeftOut 40 = .ok (.iinc 2 1, 3) := by decide +kernel
theorem d_Ga_bytesNeverLeftOut_43 : decode b_Ga_bytesNeverLeftOut 43 = .ok (.goto (-39), 3) := by decide +kernel
theorem d_Ga_bytesNeverLeftOut_46 : decode b_Ga_bytesNeverLeftOut 46 = .ok (.iload_n 1, 1) := by decide +kernel
theorem d_Ga_bytesNeverLeftOut_47 : decode b_Ga_bytesNeverLeftOut 47 = .ok (.ireturn, 1) := by decide +kernel
theorem d_Ga_hasPlaceIn_0 : decode b_Ga_hasPlaceIn 0 = .ok (.iload_n 1, 1) := by decide +kernel
theorem d_Ga_hasPlaceIn_1 : decode b_Ga_hasPlaceIn 1 = .ok (.ifCond .ne 22, 3) := by decide +kernel
theorem d_Ga_hasPlaceIn_4 : decode b_Ga_hasPlaceIn 4 = .ok (.aload_n 0, 1) := by decide +kernel
theorem d_Ga_hasPlaceIn_5 : decode b_Ga_hasPlaceIn 5 = .ok (.getfield 42, 3) := by decide +kernel
theorem d_Ga_hasPlaceIn_8 : decode b_Ga_hasPlaceIn 8 = .ok (.iconst 0, 1) := by decide +kernel
theorem d_Ga_hasPlaceIn_9 : decode b_Ga_hasPlaceIn 9 = .ok (.iaload, 1) := by decide +kernel
theorem d_Ga_hasPlaceIn_10 : decode b_Ga_hasPlaceIn 10 = .ok (.bipush 100, 2) := by decide +kernel
theorem d_Ga_hasPlaceIn_12 : decode b_Ga_hasPlaceIn 12 = .ok (.if_icmp .ge 7, 3) := by decide +kernel
theorem d_Ga_hasPlaceIn_15 : decode b_Ga_hasPlaceIn 15 = .ok (.iconst 1, 1) := by decide +kernel
theorem d_Ga_hasPlaceIn_16 : decode b_Ga_hasPlaceIn 16 = .ok (.goto 22, 3) := by decide +kernel
theorem d_Ga_hasPlaceIn_19 : decode b_Ga_hasPlaceIn 19 = .ok (.iconst 0, 1) := by decide +kernel
theorem d_Ga_hasPlaceIn_20 : decode b_Ga_hasPlaceIn 20 = .ok (.goto 18, 3) := by decide +kernel
theorem d_Ga_hasPlaceIn_23 : decode b_Ga_hasPlaceIn 23 = .ok (.aload_n 0, 1) := by decide +kernel
theorem d_Ga_hasPlaceIn_24 : decode b_Ga_hasPlaceIn 24 = .ok (.invokevirtual 55, 3) := by decide +kernel
theorem d_Ga_hasPlaceIn_27 : decode b_Ga_hasPlaceIn 27 = .ok (.sipush 1000, 3) := by decide +kernel
theorem d_Ga_hasPlaceIn_30 : decode b_Ga_hasPlaceIn 30 = .ok (.if_icmp .ge 7, 3) := by decide +kernel
theorem d_Ga_hasPlaceIn_33 : decode b_Ga_hasPlaceIn 33 = .ok (.iconst 1, 1) := by decide +kernel
theorem d_Ga_hasPlaceIn_34 : decode b_Ga_hasPlaceIn 34 = .ok (.goto 4, 3) := by decide +kernel
theorem d_Ga_hasPlaceIn_37 : decode b_Ga_hasPlaceIn 37 = .ok (.iconst 0, 1) := by decide +kernel
theorem d_Ga_hasPlaceIn_38 : decode b_Ga_hasPlaceIn 38 = .ok (.ireturn, 1) := by decide +kernel
theorem d_Ga_isNeverLeftOut_0 : decode b_Ga_isNeverLeftOut 0 = .ok (.iload_n 1, 1) := by decide +kernel
theorem d_Ga_isNeverLeftOut_1 : decode b_Ga_isNeverLeftOut 1 = .ok (.iconst 3, 1) := by decide +kernel
theorem d_Ga_isNeverLeftOut_2 : decode b_Ga_isNeverLeftOut 2 = .ok (.if_icmp .ne 18, 3) := by decide +kernel
theorem d_Ga_isNeverLeftOut_5 : decode b_Ga_isNeverLeftOut 5 = .ok (.aload_n 0, 1) := by decide +kernel
theorem d_Ga_isNeverLeftOut_6 : decode b_Ga_isNeverLeftOut 6 = .ok (.getfield 28, 3) := by decide +kernel
theorem d_Ga_isNeverLeftOut_9 : decode b_Ga_isNeverLeftOut 9 = .ok (.iload_n 2, 1) := by decide +kernel
theorem d_Ga_isNeverLeftOut_10 : decode b_Ga_isNeverLeftOut 10 = .ok (.iaload, 1) := by decide +kernel
theorem d_Ga_isNeverLeftOut_11 : decode b_Ga_isNeverLeftOut 11 = .ok (.bipush 41, 2) := by decide +kernel
theorem d_Ga_isNeverLeftOut_13 : decode b_Ga_isNeverLeftOut 13 = .ok (.if_icmp .ne 7, 3) := by decide +kernel
theorem d_Ga_isNeverLeftOut_16 : decode b_Ga_isNeverLeftOut 16 = .ok (.iconst 1, 1) := by decide +kernel
theorem d_Ga_isNeverLeftOut_17 : decode b_Ga_isNeverLeftOut 17 = .ok (.goto 4, 3) := by decide +kernel
theorem d_Ga_isNeverLeftOut_20 : decode b_Ga_isNeverLeftOut 20 = .ok (.iconst 0, 1) := by decide +kernel
theorem d_Ga_isNeverLeftOut_21 : decode b_Ga_isNeverLeftOut 21 = .ok (.ireturn, 1) := by decide +kernel
theorem d_Ga_keep_0 : decode b_Ga_keep 0 = .ok (.aload_n 0, 1) := by decide +kernel
theorem d_Ga_keep_1 : decode b_Ga_keep 1 = .ok (.getfield 12, 3) := by decide +kernel
theorem d_Ga_keep_4 : decode b_Ga_keep 4 = .ok (.getfield 52, 3) := by decide +kernel
theorem d_Ga_keep_7 : decode b_Ga_keep 7 = .ok (.ldc 59, 2) := by decide +kernel
theorem d_Ga_keep_9 : decode b_Ga_keep 9 = .ok (.if_icmp .gt 11, 3) := by decide +kernel
theorem d_Ga_keep_12 : decode b_Ga_keep 12 = .ok (.aload_n 0, 1) := by decide +kernel
theorem d_Ga_keep_13 : decode b_Ga_keep 13 = .ok (.iload_n 1, 1) := by decide +kernel
theorem d_Ga_keep_14 : decode b_Ga_keep 14 = .ok (.invokevirtual 60, 3) := by decide +kernel
theorem d_Ga_keep_17 : decode b_Ga_keep 17 = .ok (.ifCond .ne 13, 3) := by decide +kernel
theorem d_Ga_keep_20 : decode b_Ga_keep 20 = .ok (.aload_n 0, 1) := by decide +kernel
theorem d_Ga_keep_21 : decode b_Ga_keep 21 = .ok (.getfield 12, 3) := by decide +kernel
theorem d_Ga_keep_24 : decode b_Ga_keep 24 = .ok (.iload_n 2, 1) := by decide +kernel
theorem d_Ga_keep_25 : decode b_Ga_keep 25 = .ok (.putfield 52, 3) := by decide +kernel
theorem d_Ga_keep_28 : decode b_Ga_keep 28 = .ok (.iconst 0, 1) := by decide +kernel
theorem d_Ga_keep_29 : decode b_Ga_keep 29 = .ok (.ireturn, 1) := by decide +kernel
theorem d_Ga_keep_30 : decode b_Ga_keep 30 = .ok (.aload_n 0, 1) := by decide +kernel
theorem d_Ga_keep_31 : decode b_Ga_keep 31 = .ok (.getfield 42, 3) := by decide +kernel
theorem d_Ga_keep_34 : decode b_Ga_keep 34 = .ok (.iconst 0, 1) := by decide +kernel
theorem d_Ga_keep_35 : decode b_Ga_keep 35 = .ok (.iaload, 1) := by decide +kernel
theorem d_Ga_keep_36 : decode b_Ga_keep 36 = .ok (.aload_n 0, 1) := by decide +kernel
theorem d_Ga_keep_37 : decode b_Ga_keep 37 = .ok (.invokevirtual 55, 3) := by decide +kernel
theorem d_Ga_keep_40 : decode b_Ga_keep 40 = .ok (.iadd, 1) := by decide +kernel
theorem d_Ga_keep_41 : decode b_Ga_keep 41 = .ok (.istore 7, 2) := by decide +kernel
theorem d_Ga_keep_43 : decode b_Ga_keep 43 = .ok (.aload_n 0, 1) := by decide +kernel
theorem d_Ga_keep_44 : decode b_Ga_keep 44 = .ok (.getfield 18, 3) := by decide +kernel
theorem d_Ga_keep_47 : decode b_Ga_keep 47 = .ok (.iload 7, 2) := by decide +kernel
theorem d_Ga_keep_49 : decode b_Ga_keep 49 = .ok (.iload_n 2, 1) := by decide +kernel
theorem d_Ga_keep_50 : decode b_Ga_keep 50 = .ok (.iastore, 1) := by decide +kernel
theorem d_Ga_keep_51 : decode b_Ga_keep 51 = .ok (.aload_n 0, 1) := by decide +kernel
theorem d_Ga_keep_52 : decode b_Ga_keep 52 = .ok (.getfield 22, 3) := by decide +kernel
theorem d_Ga_keep_55 : decode b_Ga_keep 55 = .ok (.iload 7, 2) := by decide +kernel
theorem d_Ga_keep_57 : decode b_Ga_keep 57 = .ok (.iload_n 3, 1) := by decide +kernel
theorem d_Ga_keep_58 : decode b_Ga_keep 58 = .ok (.iastore, 1) := by decide +kernel
theorem d_Ga_keep_59 : decode b_Ga_keep 59 = .ok (.aload_n 0, 1) := by decide +kernel
theorem d_Ga_keep_60 : decode b_Ga_keep 60 = .ok (.getfield 25, 3) := by decide +kernel
theorem d_Ga_keep_63 : decode b_Ga_keep 63 = .ok (.iload 7, 2) := by decide +kernel
theorem d_Ga_keep_65 : decode b_Ga_keep 65 = .ok (.aload_n 0, 1) := by decide +kernel
theorem d_Ga_keep_66 : decode b_Ga_keep 66 = .ok (.getfield 12, 3) := by decide +kernel
theorem d_Ga_keep_69 : decode b_Ga_keep 69 = .ok (.getfield 52, 3) := by decide +kernel
theorem d_Ga_keep_72 : decode b_Ga_keep 72 = .ok (.iload_n 2, 1) := by decide +kernel
theorem d_Ga_keep_73 : decode b_Ga_keep 73 = .ok (.isub, 1) := by decide +kernel
theorem d_Ga_keep_74 : decode b_Ga_keep 74 = .ok (.iload_n 3, 1) := by decide +kernel
theorem d_Ga_keep_75 : decode b_Ga_keep 75 = .ok (.isub, 1) := by decide +kernel
theorem d_Ga_keep_76 : decode b_Ga_keep 76 = .ok (.iastore, 1) := by decide +kernel
theorem d_Ga_keep_77 : decode b_Ga_keep 77 = .ok (.aload_n 0, 1) := by decide +kernel
theorem d_Ga_keep_78 : decode b_Ga_keep 78 = .ok (.getfield 28, 3) := by decide +kernel
theorem d_Ga_keep_81 : decode b_Ga_keep 81 = .ok (.iload 7, 2) := by decide +kernel
theorem d_Ga_keep_83 : decode b_Ga_keep 83 = .ok (.iload 4, 2) := by decide +kernel
theorem d_Ga_keep_85 : decode b_Ga_keep 85 = .ok (.iastore, 1) := by decide +kernel
theorem d_Ga_keep_86 : decode b_Ga_keep 86 = .ok (.aload_n 0, 1) := by decide +kernel
theorem d_Ga_keep_87 : decode b_Ga_keep 87 = .ok (.getfield 31, 3) := by decide +kernel
theorem d_Ga_keep_90 : decode b_Ga_keep 90 = .ok (.iload 7, 2) := by decide +kernel
theorem d_Ga_keep_92 : decode b_Ga_keep 92 = .ok (.iload 5, 2) := by decide +kernel
theorem d_Ga_keep_94 : decode b_Ga_keep 94 = .ok (.iastore, 1) := by decide +kernel
theorem d_Ga_keep_95 : decode b_Ga_keep 95 = .ok (.aload_n 0, 1) := by decide +kernel
theorem d_Ga_keep_96 : decode b_Ga_keep 96 = .ok (.getfield 34, 3) := by decide +kernel
theorem d_Ga_keep_99 : decode b_Ga_keep 99 = .ok (.iload 7, 2) := by decide +kernel
theorem d_Ga_keep_101 : decode b_Ga_keep 101 = .ok (.iload 6, 2) := by decide +kernel
theorem d_Ga_keep_103 : decode b_Ga_keep 103 = .ok (.iastore, 1) := by decide +kernel
theorem d_Ga_keep_104 : decode b_Ga_keep 104 = .ok (.aload_n 0, 1) := by decide +kernel
theorem d_Ga_keep_105 : decode b_Ga_keep 105 = .ok (.getfield 39, 3) := by decide +kernel
theorem d_Ga_keep_108 : decode b_Ga_keep 108 = .ok (.iload_n 1, 1) := by decide +kernel
theorem d_Ga_keep_109 : decode b_Ga_keep 109 = .ok (.aaload, 1) := by decide +kernel
theorem d_Ga_keep_110 : decode b_Ga_keep 110 = .ok (.aload_n 0, 1) := by decide +kernel
theorem d_Ga_keep_111 : decode b_Ga_keep 111 = .ok (.getfield 42, 3) := by decide +kernel
theorem d_Ga_keep_114 : decode b_Ga_keep 114 = .ok (.iload_n 1, 1) := by decide +kernel
theorem d_Ga_keep_115 : decode b_Ga_keep 115 = .ok (.iaload, 1) := by decide +kernel
theorem d_Ga_keep_116 : decode b_Ga_keep 116 = .ok (.iload 7, 2) := by decide +kernel
theorem d_Ga_keep_118 : decode b_Ga_keep 118 = .ok (.iastore, 1) := by decide +kernel
theorem d_Ga_keep_119 : decode b_Ga_keep 119 = .ok (.aload_n 0, 1) := by decide +kernel
theorem d_Ga_keep_120 : decode b_Ga_keep 120 = .ok (.getfield 42, 3) := by decide +kernel
theorem d_Ga_keep_123 : decode b_Ga_keep 123 = .ok (.iload_n 1, 1) := by decide +kernel
theorem d_Ga_keep_124 : decode b_Ga_keep 124 = .ok (.dup2, 1) := by decide +kernel
theorem d_Ga_keep_125 : decode b_Ga_keep 125 = .ok (.iaload, 1) := by decide +kernel
theorem d_Ga_keep_126 : decode b_Ga_keep 126 = .ok (.iconst 1, 1) := by decide +kernel
theorem d_Ga_keep_127 : decode b_Ga_keep 127 = .ok (.iadd, 1) := by decide +kernel
theorem d_Ga_keep_128 : decode b_Ga_keep 128 = .ok (.iastore, 1) := by decide +kernel
theorem d_Ga_keep_129 : decode b_Ga_keep 129 = .ok (.iconst 1, 1) := by decide +kernel
theorem d_Ga_keep_130 : decode b_Ga_keep 130 = .ok (.ireturn, 1) := by decide +kernel
theorem d_Ga_lengthUnderRoot_0 : decode b_Ga_lengthUnderRoot 0 = .ok (.bipush 11, 2) := by decide +kernel
theorem d_Ga_lengthUnderRoot_2 : decode b_Ga_lengthUnderRoot 2 = .ok (.aload_n 0, 1) := by decide +kernel
theorem d_Ga_lengthUnderRoot_3 : decode b_Ga_lengthUnderRoot 3 = .ok (.getfield 25, 3) := by decide +kernel
theorem d_Ga_lengthUnderRoot_6 : decode b_Ga_lengthUnderRoot 6 = .ok (.iload_n 1, 1) := by decide +kernel
theorem d_Ga_lengthUnderRoot_7 : decode b_Ga_lengthUnderRoot 7 = .ok (.iaload, 1) := by decide +kernel
theorem d_Ga_lengthUnderRoot_8 : decode b_Ga_lengthUnderRoot 8 = .ok (.iadd, 1) := by decide +kernel
theorem d_Ga_lengthUnderRoot_9 : decode b_Ga_lengthUnderRoot 9 = .ok (.ireturn, 1) := by decide +kernel
theorem d_Ga_records_0 : decode b_Ga_records 0 = .ok (.aload_n 0, 1) := by decide +kernel
theorem d_Ga_records_1 : decode b_Ga_records 1 = .ok (.getfield 42, 3) := by decide +kernel
theorem d_Ga_records_4 : decode b_Ga_records 4 = .ok (.iconst 1, 1) := by decide +kernel
theorem d_Ga_records_5 : decode b_Ga_records 5 = .ok (.iaload, 1) := by decide +kernel
theorem d_Ga_records_6 : decode b_Ga_records 6 = .ok (.aload_n 0, 1) := by decide +kernel
theorem d_Ga_records_7 : decode b_Ga_records 7 = .ok (.getfield 42, 3) := by decide +kernel
theorem d_Ga_records_10 : decode b_Ga_records 10 = .ok (.iconst 2, 1) := by decide +kernel
theorem d_Ga_records_11 : decode b_Ga_records 11 = .ok (.iaload, 1) := by decide +kernel
theorem d_Ga_records_12 : decode b_Ga_records 12 = .ok (.iadd, 1) := by decide +kernel
theorem d_Ga_records_13 : decode b_Ga_records 13 = .ok (.aload_n 0, 1) := by decide +kernel
theorem d_Ga_records_14 : decode b_Ga_records 14 = .ok (.getfield 42, 3) := by decide +kernel
theorem d_Ga_records_17 : decode b_Ga_records 17 = .ok (.iconst 3, 1) := by decide +kernel
theorem d_Ga_records_18 : decode b_Ga_records 18 = .ok (.iaload, 1) := by decide +kernel
theorem d_Ga_records_19 : decode b_Ga_records 19 = .ok (.iadd, 1) := by decide +kernel
theorem d_Ga_records_20 : decode b_Ga_records 20 = .ok (.ireturn, 1) := by decide +kernel
theorem d_Ga_rowOf_0 : decode b_Ga_rowOf 0 = .ok (.iload_n 1, 1) := by decide +kernel
theorem d_Ga_rowOf_1 : decode b_Ga_rowOf 1 = .ok (.ifCond .lt 22, 3) := by decide +kernel
theorem d_Ga_rowOf_4 : decode b_Ga_rowOf 4 = .ok (.iload_n 1, 1) := by decide +kernel
theorem d_Ga_rowOf_5 : decode b_Ga_rowOf 5 = .ok (.iconst 4, 1) := by decide +kernel
theorem d_Ga_rowOf_6 : decode b_Ga_rowOf 6 = .ok (.if_icmp .ge 17, 3) := by decide +kernel
theorem d_Ga_rowOf_9 : decode b_Ga_rowOf 9 = .ok (.iload_n 2, 1) := by decide +kernel
theorem d_Ga_rowOf_10 : decode b_Ga_rowOf 10 = .ok (.ifCond .lt 13, 3) := by decide +kernel
theorem d_Ga_rowOf_13 : decode b_Ga_rowOf 13 = .ok (.iload_n 2, 1) := by decide +kernel
theorem d_Ga_rowOf_14 : decode b_Ga_rowOf 14 = .ok (.aload_n 0, 1) := by decide +kernel
theorem d_Ga_rowOf_15 : decode b_Ga_rowOf 15 = .ok (.getfield 42, 3) := by decide +kernel
theorem d_Ga_rowOf_18 : decode b_Ga_rowOf 18 = .ok (.iload_n 1, 1) := by decide +kernel
theorem d_Ga_rowOf_19 : decode b_Ga_rowOf 19 = .ok (.iaload, 1) := by decide +kernel
theorem d_Ga_rowOf_20 : decode b_Ga_rowOf 20 = .ok (.if_icmp .lt 5, 3) := by decide +kernel
theorem d_Ga_rowOf_23 : decode b_Ga_rowOf 23 = .ok (.iconst (-1), 1) := by decide +kernel
theorem d_Ga_rowOf_24 : decode b_Ga_rowOf 24 = .ok (.ireturn, 1) := by decide +kernel
theorem d_Ga_rowOf_25 : decode b_Ga_rowOf 25 = .ok (.aload_n 0, 1) := by decide +kernel
theorem d_Ga_rowOf_26 : decode b_Ga_rowOf 26 = .ok (.getfield 39, 3) := by decide +kernel
theorem d_Ga_rowOf_29 : decode b_Ga_rowOf 29 = .ok (.iload_n 1, 1) := by decide +kernel
theorem d_Ga_rowOf_30 : decode b_Ga_rowOf 30 = .ok (.aaload, 1) := by decide +kernel
theorem d_Ga_rowOf_31 : decode b_Ga_rowOf 31 = .ok (.iload_n 2, 1) := by decide +kernel
theorem d_Ga_rowOf_32 : decode b_Ga_rowOf 32 = .ok (.iaload, 1) := by decide +kernel
theorem d_Ga_rowOf_33 : decode b_Ga_rowOf 33 = .ok (.ireturn, 1) := by decide +kernel
theorem d_Ga_startAnew_0 : decode b_Ga_startAnew 0 = .ok (.aload_n 0, 1) := by decide +kernel
theorem d_Ga_startAnew_1 : decode b_Ga_startAnew 1 = .ok (.iload_n 1, 1) := by decide +kernel
theorem d_Ga_startAnew_2 : decode b_Ga_startAnew 2 = .ok (.putfield 45, 3) := by decide +kernel
theorem d_Ga_startAnew_5 : decode b_Ga_startAnew 5 = .ok (.aload_n 0, 1) := by decide +kernel
theorem d_Ga_startAnew_6 : decode b_Ga_startAnew 6 = .ok (.iload_n 2, 1) := by decide +kernel
theorem d_Ga_startAnew_7 : decode b_Ga_startAnew 7 = .ok (.putfield 49, 3) := by decide +kernel
theorem d_Ga_startAnew_10 : decode b_Ga_startAnew 10 = .ok (.aload_n 0, 1) := by decide +kernel
theorem d_Ga_startAnew_11 : decode b_Ga_startAnew 11 = .ok (.getfield 12, 3) := by decide +kernel
theorem d_Ga_startAnew_14 : decode b_Ga_startAnew 14 = .ok (.iconst 0, 1) := by decide +kernel
theorem d_Ga_startAnew_15 : decode b_Ga_startAnew 15 = .ok (.putfield 52, 3) := by decide +kernel
theorem d_Ga_startAnew_18 : decode b_Ga_startAnew 18 = .ok (.iconst 0, 1) := by decide +kernel
theorem d_Ga_startAnew_19 : decode b_Ga_startAnew 19 = .ok (.istore_n 3, 1) := by decide +kernel
theorem d_Ga_startAnew_20 : decode b_Ga_startAnew 20 = .ok (.iload_n 3, 1) := by decide +kernel
theorem d_Ga_startAnew_21 : decode b_Ga_startAnew 21 = .ok (.iconst 4, 1) := by decide +kernel
theorem d_Ga_startAnew_22 : decode b_Ga_startAnew 22 = .ok (.if_icmp .ge 16, 3) := by decide +kernel
theorem d_Ga_startAnew_25 : decode b_Ga_startAnew 25 = .ok (.aload_n 0, 1) := by decide +kernel
theorem d_Ga_startAnew_26 : decode b_Ga_startAnew 26 = .ok (.getfield 42, 3) := by decide +kernel
theorem d_Ga_startAnew_29 : decode b_Ga_startAnew 29 = .ok (.iload_n 3, 1) := by decide +kernel
theorem d_Ga_startAnew_30 : decode b_Ga_startAnew 30 = .ok (.iconst 0, 1) := by decide +kernel
theorem d_Ga_startAnew_31 : decode b_Ga_startAnew 31 = .ok (.iastore, 1) := by decide +kernel
theorem d_Ga_startAnew_32 : decode b_Ga_startAnew 32 = .ok (.iinc 3 1, 3) := by decide +kernel
theorem d_Ga_startAnew_35 : decode b_Ga_startAnew 35 = .ok (.goto (-15), 3) := by decide +kernel
theorem d_Ga_startAnew_38 : decode b_Ga_startAnew 38 = .ok (.return_, 1) := by decide +kernel
set_option maxHeartbeats 4000000 in
set_option maxRecDepth 100000 in
/-- Gathered.startAnew -/
theorem m_Ga_startAnew (l : Launch) (D9 : va_G) (cB cI cJ cG : ClassId) (a : Nat → Nat) (O : Nat → Int64) (I : Nat → Int32) (F : Nat → Nat → Int32) (es : List En9) (x y : Int32) (hF : sb_Fit (F 4)) : MC l D9 cB cI cJ cG a O y_Ga_startAnew b_Ga_startAnew 4 (none) 0 [.ref (a 19), .int (x), .int (y)] I F (fun v I' F' => v = none ∧ sm [3, 11, 12] I I' ∧ I' 11 = x ∧ I' 12 = y ∧ I' 3 = nI 0 ∧ sm [16] F F' ∧ GaR F' []) := by
  refine mc_ofv (by decide) (Nat.le_of_ble_eq_true rfl) ?_
  intro p e s m below meth c ls A0 Q C0 hP hD hA hS hl hret
  obtain ⟨hx, hb, hml, hr, hlocks, hown, hts, hK⟩ := id C0
  have hl : lv_has ls 4 [(0, .ref (a 19)), (1, .int (x)), (2, .int (y))] := hl
  refine lv_aload_n hx hb d_Ga_startAnew_0 rfl (lv_at hl 0 rfl) ?_
  refine lv_iload_n hx hb d_Ga_startAnew_1 rfl (lv_at hl 1 rfl) ?_
  refine va_put (D := D9) (ty := .int) (ci := 2) (C := R_Ga) (T := F_Ga) (N := 11) hx hb hts i_Ga t_Ga t_Ga_ok n_Ga hown hK hP hD hS 19 ww_19 rfl 9 (by decide) (hts _ g_84) (fun _ h9 => h9) rfl (by decide +kernel) rfl rfl (Nat.le_of_ble_eq_true rfl) d_Ga_startAnew_2 (fun H locs hP hD hS => ?_)
  obtain ⟨I1, aI1, sI1, hP, hD⟩ := fx (P := fun z => va_P D9 cls9 (WW a cB cI cJ cG z _ O) H ∧ va_D A0 (WW a cB cI cJ cG z _ O)) ⟨wp_11 hP, wd_11 hD⟩
  refine lv_aload_n hx hb d_Ga_startAnew_5 rfl (lv_at hl 0 rfl) ?_
  refine lv_iload_n hx hb d_Ga_startAnew_6 rfl (lv_at hl 2 rfl) ?_
  refine va_put (D := D9) (ty := .int) (ci := 2) (C := R_Ga) (T := F_Ga) (N := 11) hx hb hts i_Ga t_Ga t_Ga_ok n_Ga hown hK hP hD hS 19 ww_19 rfl 10 (by decide) (hts _ g_87) (fun _ h9 => h9) rfl (by decide +kernel) rfl rfl (Nat.le_of_ble_eq_true rfl) d_Ga_startAnew_7 (fun H locs hP hD hS => ?_)
  obtain ⟨I2, aI2, sI2, hP, hD⟩ := fx (P := fun z => va_P D9 cls9 (WW a cB cI cJ cG z _ O) H ∧ va_D A0 (WW a cB cI cJ cG z _ O)) ⟨wp_12 hP, wd_12 hD⟩
  refine lv_aload_n hx hb d_Ga_startAnew_10 rfl (lv_at hl 0 rfl) ?_
  refine va_get (D := D9) (ci := 2) (C := R_Ga) (T := F_Ga) (N := 11) hx hb hts i_Ga hown hK hP 19 ww_19 rfl 0 (by decide) (hts _ g_57) (fun _ h9 => h9) rfl d_Ga_startAnew_11 ?_
  refine lv_iconst (v := 0) hx hb d_Ga_startAnew_14 (by decide) ?_
  refine lv_topq (y := nI 0) (rfl) ?_
  refine va_putN (D := D9) (ty := .int) (ci := 0) (C := R_By) (T := F_By) (N := 2) hx hb hts i_By t_By t_By_ok n_By hown hK hP hD hS 3 ww_3 rfl 1 (by decide) (hts _ g_37) (fun _ h9 => h9) rfl (by decide +kernel) rfl rfl (Nat.le_of_ble_eq_true rfl) d_Ga_startAnew_15 (fun H locs hP hD hS => ?_)
  obtain ⟨I3, aI3, sI3, hP, hD⟩ := fx (P := fun z => va_P D9 cls9 (WW a cB cI cJ cG z _ O) H ∧ va_D A0 (WW a cB cI cJ cG z _ O)) ⟨wp_3 hP, wd_3 hD⟩
  refine lv_iconst (v := 0) hx hb d_Ga_startAnew_18 (by decide) ?_
  refine lv_topq (y := nI 0) (rfl) ?_
  refine lv_istore_n (lv' := [(3, _), (0, _), (1, _), (2, _)]) hx hb d_Ga_startAnew_19 rfl hl (by decide) rfl (fun ls hl => ?_)
  refine lv_iload_n hx hb d_Ga_startAnew_20 rfl (lv_at hl 0 rfl) ?_
  refine lv_iconst (v := 4) hx hb d_Ga_startAnew_21 (by decide) ?_
  refine lv_topq (y := nI 4) (rfl) ?_
  refine lv_icmp_ge (tgt := 38) hx hb d_Ga_startAnew_22 (by decide) (fun c4 => ?_) (fun c4 => ?_)
  · exact absurd c4 (by decide)
  · refine lv_aload_n hx hb d_Ga_startAnew_25 rfl (lv_at hl 1 rfl) ?_
    refine va_get (D := D9) (ci := 2) (C := R_Ga) (T := F_Ga) (N := 11) hx hb hts i_Ga hown hK hP 19 ww_19 rfl 8 (by decide) (hts _ g_81) (fun _ h9 => h9) rfl d_Ga_startAnew_26 ?_
    refine lv_iload_n hx hb d_Ga_startAnew_29 rfl (lv_at hl 0 rfl) ?_
    refine lv_iconst (v := 0) hx hb d_Ga_startAnew_30 (by decide) ?_
    refine lv_topq (y := nI 0) (rfl) ?_
    refine va_iast (D := D9) hx hb hK hP hD hS 16 1 ww_16 rfl (vp_in_nI (by omega) (by decide)) d_Ga_startAnew_31 (fun H locs hP hD hS => ?_)
    obtain ⟨F5, aF5, sF5, hP, hD⟩ := fx (P := fun z => va_P D9 cls9 (WW a cB cI cJ cG _ z O) H ∧ va_D A0 (WW a cB cI cJ cG _ z O)) ⟨wpa_16 hP, wda_16 hD⟩
    rw [nI_clamp (by omega)] at aF5
    refine lv_iinc (lv' := [(3, .int (nI 1)), (0, _), (1, _), (2, _)]) hx hb d_Ga_startAnew_32 hl (k := 0) rfl rfl (by decide) rfl (fun ls hl => ?_)
    refine lv_goto (tgt := 20) hx hb d_Ga_startAnew_35 (by decide) ?_
    refine lv_iload_n hx hb d_Ga_startAnew_20 rfl (lv_at hl 0 rfl) ?_
    refine lv_iconst (v := 4) hx hb d_Ga_startAnew_21 (by decide) ?_
    refine lv_topq (y := nI 4) (rfl) ?_
    refine lv_icmp_ge (tgt := 38) hx hb d_Ga_startAnew_22 (by decide) (fun c6 => ?_) (fun c6 => ?_)
    · exact absurd c6 (by decide)
    · refine lv_aload_n hx hb d_Ga_startAnew_25 rfl (lv_at hl 1 rfl) ?_
      refine va_get (D := D9) (ci := 2) (C := R_Ga) (T := F_Ga) (N := 11) hx hb hts i_Ga hown hK hP 19 ww_19 rfl 8 (by decide) (hts _ g_81) (fun _ h9 => h9) rfl d_Ga_startAnew_26 ?_
      refine lv_iload_n hx hb d_Ga_startAnew_29 rfl (lv_at hl 0 rfl) ?_
      refine lv_iconst (v := 0) hx hb d_Ga_startAnew_30 (by decide) ?_
      refine lv_topq (y := nI 0) (rfl) ?_
      refine va_iast (D := D9) hx hb hK hP hD hS 16 1 ww_16 rfl (vp_in_nI (by omega) (by decide)) d_Ga_startAnew_31 (fun H locs hP hD hS => ?_)
      obtain ⟨F7, aF7, sF7, hP, hD⟩ := fx (P := fun z => va_P D9 cls9 (WW a cB cI cJ cG _ z O) H ∧ va_D A0 (WW a cB cI cJ cG _ z O)) ⟨wpa_16 hP, wda_16 hD⟩
      rw [nI_clamp (by omega)] at aF7
      refine lv_iinc (lv' := [(3, .int (nI 2)), (0, _), (1, _), (2, _)]) hx hb d_Ga_startAnew_32 hl (k := 0) rfl rfl (by decide) rfl (fun ls hl => ?_)
      refine lv_goto (tgt := 20) hx hb d_Ga_startAnew_35 (by decide) ?_
      refine lv_iload_n hx hb d_Ga_startAnew_20 rfl (lv_at hl 0 rfl) ?_
      refine lv_iconst (v := 4) hx hb d_Ga_startAnew_21 (by decide) ?_
      refine lv_topq (y := nI 4) (rfl) ?_
      refine lv_icmp_ge (tgt := 38) hx hb d_Ga_startAnew_22 (by decide) (fun c8 => ?_) (fun c8 => ?_)
      · exact absurd c8 (by decide)
      · refine lv_aload_n hx hb d_Ga_startAnew_25 rfl (lv_at hl 1 rfl) ?_
        refine va_get (D := D9) (ci := 2) (C := R_Ga) (T := F_Ga) (N := 11) hx hb hts i_Ga hown hK hP 19 ww_19 rfl 8 (by decide) (hts _ g_81) (fun _ h9 => h9) rfl d_Ga_startAnew_26 ?_
        refine lv_iload_n hx hb d_Ga_startAnew_29 rfl (lv_at hl 0 rfl) ?_
        refine lv_iconst (v := 0) hx hb d_Ga_startAnew_30 (by decide) ?_
        refine lv_topq (y := nI 0) (rfl) ?_
        refine va_iast (D := D9) hx hb hK hP hD hS 16 1 ww_16 rfl (vp_in_nI (by omega) (by decide)) d_Ga_startAnew_31 (fun H locs hP hD hS => ?_)
        obtain ⟨F9, aF9, sF9, hP, hD⟩ := fx (P := fun z => va_P D9 cls9 (WW a cB cI cJ cG _ z O) H ∧ va_D A0 (WW a cB cI cJ cG _ z O)) ⟨wpa_16 hP, wda_16 hD⟩
        rw [nI_clamp (by omega)] at aF9
        refine lv_iinc (lv' := [(3, .int (nI 3)), (0, _), (1, _), (2, _)]) hx hb d_Ga_startAnew_32 hl (k := 0) rfl rfl (by decide) rfl (fun ls hl => ?_)
        refine lv_goto (tgt := 20) hx hb d_Ga_startAnew_35 (by decide) ?_
        refine lv_iload_n hx hb d_Ga_startAnew_20 rfl (lv_at hl 0 rfl) ?_
        refine lv_iconst (v := 4) hx hb d_Ga_startAnew_21 (by decide) ?_
        refine lv_topq (y := nI 4) (rfl) ?_
        refine lv_icmp_ge (tgt := 38) hx hb d_Ga_startAnew_22 (by decide) (fun c10 => ?_) (fun c10 => ?_)
        · exact absurd c10 (by decide)
        · refine lv_aload_n hx hb d_Ga_startAnew_25 rfl (lv_at hl 1 rfl) ?_
          refine va_get (D := D9) (ci := 2) (C := R_Ga) (T := F_Ga) (N := 11) hx hb hts i_Ga hown hK hP 19 ww_19 rfl 8 (by decide) (hts _ g_81) (fun _ h9 => h9) rfl d_Ga_startAnew_26 ?_
          refine lv_iload_n hx hb d_Ga_startAnew_29 rfl (lv_at hl 0 rfl) ?_
          refine lv_iconst (v := 0) hx hb d_Ga_startAnew_30 (by decide) ?_
          refine lv_topq (y := nI 0) (rfl) ?_
          refine va_iast (D := D9) hx hb hK hP hD hS 16 1 ww_16 rfl (vp_in_nI (by omega) (by decide)) d_Ga_startAnew_31 (fun H locs hP hD hS => ?_)
          obtain ⟨F11, aF11, sF11, hP, hD⟩ := fx (P := fun z => va_P D9 cls9 (WW a cB cI cJ cG _ z O) H ∧ va_D A0 (WW a cB cI cJ cG _ z O)) ⟨wpa_16 hP, wda_16 hD⟩
          rw [nI_clamp (by omega)] at aF11
          refine lv_iinc (lv' := [(3, .int (nI 4)), (0, _), (1, _), (2, _)]) hx hb d_Ga_startAnew_32 hl (k := 0) rfl rfl (by decide) rfl (fun ls hl => ?_)
          refine lv_goto (tgt := 20) hx hb d_Ga_startAnew_35 (by decide) ?_
          refine lv_iload_n hx hb d_Ga_startAnew_20 rfl (lv_at hl 0 rfl) ?_
          refine lv_iconst (v := 4) hx hb d_Ga_startAnew_21 (by decide) ?_
          refine lv_topq (y := nI 4) (rfl) ?_
          refine lv_icmp_ge (tgt := 38) hx hb d_Ga_startAnew_22 (by decide) (fun c12 => ?_) (fun c12 => ?_)
          · exact hret _ _ _ _ _ _ hS hP hD d_Ga_startAnew_38 (⟨rfl, (sm_tr (sm_tr (sm_mo sI1 (by decide)) (sm_mo sI2 (by decide))) (sm_mo sI3 (by decide))), (((sI3 11 (by decide)).trans (sI2 11 (by decide))).trans aI1), ((sI3 12 (by decide)).trans aI2), aI3, (sm_tr (sm_tr (sm_tr (sm_mo sF5 (by decide)) (sm_mo sF7 (by decide))) (sm_mo sF9 (by decide))) (sm_mo sF11 (by decide))), GaR_nil (BR_eq (BR_nil hF) ((sF11 4 (by decide)).trans ((sF9 4 (by decide)).trans ((sF7 4 (by decide)).trans (sF5 4 (by decide)))))) (by intro s hs; rw [aF11, aF9, aF7, aF5]; exact sz0 hs)⟩)
          · exact absurd c12 (by decide)
set_option maxHeartbeats 4000000 in
set_option maxRecDepth 100000 in
/-- Gathered.records -/
theorem m_Ga_records (l : Launch) (D9 : va_G) (cB cI cJ cG : ClassId) (a : Nat → Nat) (O : Nat → Int64) (I : Nat → Int32) (F : Nat → Nat → Int32) (es : List En9) (hG : GaR F es) : MC l D9 cB cI cJ cG a O y_Ga_records b_Ga_records 1 (some .int) 0 [.ref (a 19)] I F (fun v I' F' => v = some (.int (nI (cn 1 es + cn 2 es + cn 3 es))) ∧ I = I' ∧ F = F') := by
  refine mc_of (by decide) (Nat.le_of_ble_eq_true rfl) ?_
  intro p e s m below meth c ls A0 Q C0 hP hD hA hS hl hret
  obtain ⟨hx, hb, hml, hr, hlocks, hown, hts, hK⟩ := id C0
  have hl : lv_has ls 1 [(0, .ref (a 19))] := hl
  refine lv_aload_n hx hb d_Ga_records_0 rfl (lv_at hl 0 rfl) ?_
  refine va_get (D := D9) (ci := 2) (C := R_Ga) (T := F_Ga) (N := 11) hx hb hts i_Ga hown hK hP 19 ww_19 rfl 8 (by decide) (hts _ g_81) (fun _ h9 => h9) rfl d_Ga_records_1 ?_
  refine lv_iconst (v := 1) hx hb d_Ga_records_4 (by decide) ?_
  refine lv_topq (y := nI 1) (rfl) ?_
  refine va_iald (D := D9) hx hb hK hP 16 1 ww_16 rfl (vp_in_nI (by omega) (by decide)) d_Ga_records_5 ?_
  refine lv_topq (y := nI (cn 1 es)) (by rw [nI_clamp (by omega)]; exact (hG.2.1 1 (by omega))) ?_
  refine lv_aload_n hx hb d_Ga_records_6 rfl (lv_at hl 0 rfl) ?_
  refine va_get (D := D9) (ci := 2) (C := R_Ga) (T := F_Ga) (N := 11) hx hb hts i_Ga hown hK hP 19 ww_19 rfl 8 (by decide) (hts _ g_81) (fun _ h9 => h9) rfl d_Ga_records_7 ?_
  refine lv_iconst (v := 2) hx hb d_Ga_records_10 (by decide) ?_
  refine lv_topq (y := nI 2) (rfl) ?_
  refine va_iald (D := D9) hx hb hK hP 16 1 ww_16 rfl (vp_in_nI (by omega) (by decide)) d_Ga_records_11 ?_
  refine lv_topq (y := nI (cn 2 es)) (by rw [nI_clamp (by omega)]; exact (hG.2.1 2 (by omega))) ?_
  refine lv_iadd hx hb d_Ga_records_12 ?_
  refine lv_topq (y := nI (cn 1 es + (cn 2 es))) (nI_add _ _) ?_
  refine lv_aload_n hx hb d_Ga_records_13 rfl (lv_at hl 0 rfl) ?_
  refine va_get (D := D9) (ci := 2) (C := R_Ga) (T := F_Ga) (N := 11) hx hb hts i_Ga hown hK hP 19 ww_19 rfl 8 (by decide) (hts _ g_81) (fun _ h9 => h9) rfl d_Ga_records_14 ?_
  refine lv_iconst (v := 3) hx hb d_Ga_records_17 (by decide) ?_
  refine lv_topq (y := nI 3) (rfl) ?_
  refine va_iald (D := D9) hx hb hK hP 16 1 ww_16 rfl (vp_in_nI (by omega) (by decide)) d_Ga_records_18 ?_
  refine lv_topq (y := nI (cn 3 es)) (by rw [nI_clamp (by omega)]; exact (hG.2.1 3 (by omega))) ?_
  refine lv_iadd hx hb d_Ga_records_19 ?_
  refine lv_topq (y := nI (cn 1 es + (cn 2 es) + (cn 3 es))) (nI_add _ _) ?_
  exact hret _ _ _ _ _ _ _ hS hP hD d_Ga_records_20 nr_i (⟨rfl, rfl, rfl⟩)
set_option maxHeartbeats 4000000 in
set_option maxRecDepth 100000 in
/-- Gathered.hasPlaceIn -/
theorem m_Ga_hasPlaceIn (l : Launch) (D9 : va_G) (cB cI cJ cG : ClassId) (a : Nat → Nat) (O : Nat → Int64) (I : Nat → Int32) (F : Nat → Nat → Int32) (es : List En9) (t : Nat) (ht : t < 4) (hG : GaR F es) (hO : okE es) : MC l D9 cB cI cJ cG a O y_Ga_hasPlaceIn b_Ga_hasPlaceIn 2 (some .boolean) 1 [.ref (a 19), .int (nI t)] I F (fun v I' F' => v = some (.int (bI (hp t es))) ∧ I = I' ∧ F = F') := by
  refine mc_of (by decide) (Nat.le_of_ble_eq_true rfl) ?_
  intro p e s m below meth c ls A0 Q C0 hP hD hA hS hl hret
  obtain ⟨hx, hb, hml, hr, hlocks, hown, hts, hK⟩ := id C0
  have hl : lv_has ls 2 [(0, .ref (a 19)), (1, .int (nI t))] := hl
  have k0 := hO.1; have k1 := hO.2.1; have k2 := hO.2.2.1
  refine lv_iload_n hx hb d_Ga_hasPlaceIn_0 rfl (lv_at hl 1 rfl) ?_
  refine lv_if_ne (tgt := 23) hx hb d_Ga_hasPlaceIn_1 (by decide) (fun c1 => ?_) (fun c1 => ?_)
  · have c1 : ¬ (t = 0) := fun z9 => c1 ((nI_eq (a := t) (b := 0) (by omega) (by omega)).mpr z9)
    refine lv_aload_n hx hb d_Ga_hasPlaceIn_23 rfl (lv_at hl 0 rfl) ?_
    refine mw_cV (ci := 2) (k := 19) C0 (m_Ga_records l D9 cB cI cJ cG a O _ _ es hG) g_319 g_3 g_316 g_318 gs_Ga_records ⟨by decide +kernel, by decide +kernel, show Option.map (fun d => d.parameters.length) (parseMethodDescriptor y_Ga_records.desc) = some 0 by decide +kernel⟩ ⟨by decide, by decide⟩ rfl rfl hP hD hS hA rfl ww_19 hl.1 (Nat.le_of_ble_eq_true rfl) rfl d_Ga_hasPlaceIn_24 ⟨by decide, by decide⟩ (fun v9 w9 H locs hq hP hD hS => ?_)
    obtain ⟨I2, F3, hw9, q4⟩ := hq
    subst hw9
    obtain ⟨rfl, rfl, rfl⟩ := q4
    refine lv_sipush (v := 1000) hx hb d_Ga_hasPlaceIn_27 (by decide) ?_
    refine lv_topq (y := nI 1000) (rfl) ?_
    refine lv_icmp_ge (tgt := 37) hx hb d_Ga_hasPlaceIn_30 (by decide) (fun c5 => ?_) (fun c5 => ?_)
    · have c5 : 1000 ≤ cn 1 es + cn 2 es + cn 3 es := (nI_leI (a := 1000) (b := cn 1 es + cn 2 es + cn 3 es) (by omega) (by omega)).mp c5
      refine lv_iconst (v := 0) hx hb d_Ga_hasPlaceIn_37 (by decide) ?_
      refine lv_topq (y := nI 0) (rfl) ?_
      exact hret _ _ _ _ _ _ _ hS hP hD d_Ga_hasPlaceIn_38 (nr_z (Or.inl rfl)) (by have e9 : hp t es = false := (by unfold hp; split <;> simp <;> omega); rw [e9]; exact ⟨rfl, rfl, rfl⟩)
    · have c5 : ¬ (1000 ≤ cn 1 es + cn 2 es + cn 3 es) := fun z9 => c5 ((nI_leI (a := 1000) (b := cn 1 es + cn 2 es + cn 3 es) (by omega) (by omega)).mpr z9)
      refine lv_iconst (v := 1) hx hb d_Ga_hasPlaceIn_33 (by decide) ?_
      refine lv_topq (y := nI 1) (rfl) ?_
      refine lv_goto (tgt := 38) hx hb d_Ga_hasPlaceIn_34 (by decide) ?_
      exact hret _ _ _ _ _ _ _ hS hP hD d_Ga_hasPlaceIn_38 (nr_z (Or.inr rfl)) (by have e9 : hp t es = true := (by unfold hp; split <;> simp <;> omega); rw [e9]; exact ⟨rfl, rfl, rfl⟩)
  · have c1 : t = 0 := (nI_eq (a := t) (b := 0) (by omega) (by omega)).mp c1
    refine lv_aload_n hx hb d_Ga_hasPlaceIn_4 rfl (lv_at hl 0 rfl) ?_
    refine va_get (D := D9) (ci := 2) (C := R_Ga) (T := F_Ga) (N := 11) hx hb hts i_Ga hown hK hP 19 ww_19 rfl 8 (by decide) (hts _ g_81) (fun _ h9 => h9) rfl d_Ga_hasPlaceIn_5 ?_
    refine lv_iconst (v := 0) hx hb d_Ga_hasPlaceIn_8 (by decide) ?_
    refine lv_topq (y := nI 0) (rfl) ?_
    refine va_iald (D := D9) hx hb hK hP 16 1 ww_16 rfl (vp_in_nI (by omega) (by decide)) d_Ga_hasPlaceIn_9 ?_
    refine lv_topq (y := nI (cn 0 es)) (by rw [nI_clamp (by omega)]; exact (hG.2.1 0 (by omega))) ?_
    refine lv_bipush (v := 100) hx hb d_Ga_hasPlaceIn_10 (by decide) ?_
    refine lv_topq (y := nI 100) (rfl) ?_
    refine lv_icmp_ge (tgt := 19) hx hb d_Ga_hasPlaceIn_12 (by decide) (fun c6 => ?_) (fun c6 => ?_)
    · have c6 : 100 ≤ cn 0 es := (nI_leI (a := 100) (b := cn 0 es) (by omega) (by omega)).mp c6
      refine lv_iconst (v := 0) hx hb d_Ga_hasPlaceIn_19 (by decide) ?_
      refine lv_topq (y := nI 0) (rfl) ?_
      refine lv_goto (tgt := 38) hx hb d_Ga_hasPlaceIn_20 (by decide) ?_
      exact hret _ _ _ _ _ _ _ hS hP hD d_Ga_hasPlaceIn_38 (nr_z (Or.inl rfl)) (by have e9 : hp t es = false := (by unfold hp; split <;> simp <;> omega); rw [e9]; exact ⟨rfl, rfl, rfl⟩)
    · have c6 : ¬ (100 ≤ cn 0 es) := fun z9 => c6 ((nI_leI (a := 100) (b := cn 0 es) (by omega) (by omega)).mpr z9)
      refine lv_iconst (v := 1) hx hb d_Ga_hasPlaceIn_15 (by decide) ?_
      refine lv_topq (y := nI 1) (rfl) ?_
      refine lv_goto (tgt := 38) hx hb d_Ga_hasPlaceIn_16 (by decide) ?_
      exact hret _ _ _ _ _ _ _ hS hP hD d_Ga_hasPlaceIn_38 (nr_z (Or.inr rfl)) (by have e9 : hp t es = true := (by unfold hp; split <;> simp <;> omega); rw [e9]; exact ⟨rfl, rfl, rfl⟩)
set_option maxHeartbeats 4000000 in
set_option maxRecDepth 100000 in
/-- Gathered.keep -/
theorem m_Ga_keep (l : Launch) (D9 : va_G) (cB cI cJ cG : ClassId) (a : Nat → Nat) (O : Nat → Int64) (I : Nat → Int32) (F : Nat → Nat → Int32) (es : List En9) (x : En9) (hs : eS x < 4) (hty : eT x < 65536) (hki : eK x < 65536) (hG : GaR F es) (hO : okE es) (hB : BR 0 65536 (F 4) (fl es ++ (eN x ++ eD x))) (hl3 : I 3 = nI ((fl es).length + ((eN x).length + (eD x).length))) (hbd : (eN x).length + (eD x).length < 1000000) : MC l D9 cB cI cJ cG a O y_Ga_keep b_Ga_keep 8 (some .boolean) 2 [.ref (a 19), .int (nI (eS x)), .int (nI ((fl es).length)), .int (nI ((eN x).length)), .int (nI (eT x)), .int (nI (eK x)), .int (eL x)] I F (fun v I' F' => (okE (es ++ [x]) ∧ v = some (.int (nI 1)) ∧ I = I' ∧ GaR F' (es ++ [x]) ∧ sm [5, 6, 7, 8, 9, 10, 12, 13, 14, 15, 16] F F') ∨ (¬ okE (es ++ [x]) ∧ v = some (.int (nI 0)) ∧ sm [3] I I' ∧ I' 3 = nI (fl es).length ∧ F = F')) := by
  refine mc_of (by decide) (Nat.le_of_ble_eq_true rfl) ?_
  intro p e s m below meth c ls A0 Q C0 hP hD hA hS hl hret
  obtain ⟨hx, hb, hml, hr, hlocks, hown, hts, hK⟩ := id C0
  have hl : lv_has ls 8 [(0, .ref (a 19)), (1, .int (nI (eS x))), (2, .int (nI ((fl es).length))), (3, .int (nI ((eN x).length))), (4, .int (nI (eT x))), (5, .int (nI (eK x))), (6, .int (eL x))] := hl
  have k0 := hO.1; have k1 := hO.2.1; have k2 := hO.2.2.1
  refine lv_aload_n hx hb d_Ga_keep_0 rfl (lv_at hl 0 rfl) ?_
  refine va_get (D := D9) (ci := 2) (C := R_Ga) (T := F_Ga) (N := 11) hx hb hts i_Ga hown hK hP 19 ww_19 rfl 0 (by decide) (hts _ g_57) (fun _ h9 => h9) rfl d_Ga_keep_1 ?_
  refine va_getN (D := D9) (ci := 0) (C := R_By) (T := F_By) (N := 2) hx hb hts i_By hown hK hP 3 ww_3 rfl 1 (by decide) (hts _ g_37) (fun _ h9 => h9) rfl d_Ga_keep_4 ?_
  refine lv_topq (y := nI ((fl es).length + ((eN x).length + (eD x).length))) (hl3) ?_
  refine lv_ldc hx hb hown (hts _ g_311) d_Ga_keep_7 ?_
  refine lv_topq (y := nI 65536) (rfl) ?_
  refine lv_icmp_gt (tgt := 20) hx hb d_Ga_keep_9 (by decide) (fun c1 => ?_) (fun c1 => ?_)
  · have c1 : 65536 < (fl es).length + ((eN x).length + (eD x).length) := (nI_ltI (a := 65536) (b := (fl es).length + ((eN x).length + (eD x).length)) (by omega) (by omega)).mp c1
    refine lv_aload_n hx hb d_Ga_keep_20 rfl (lv_at hl 0 rfl) ?_
    refine va_get (D := D9) (ci := 2) (C := R_Ga) (T := F_Ga) (N := 11) hx hb hts i_Ga hown hK hP 19 ww_19 rfl 0 (by decide) (hts _ g_57) (fun _ h9 => h9) rfl d_Ga_keep_21 ?_
    refine lv_iload_n hx hb d_Ga_keep_24 rfl (lv_at hl 2 rfl) ?_
    refine va_putN (D := D9) (ty := .int) (ci := 0) (C := R_By) (T := F_By) (N := 2) hx hb hts i_By t_By t_By_ok n_By hown hK hP hD hS 3 ww_3 rfl 1 (by decide) (hts _ g_37) (fun _ h9 => h9) rfl (by decide +kernel) rfl rfl (Nat.le_of_ble_eq_true rfl) d_Ga_keep_25 (fun H locs hP hD hS => ?_)
    obtain ⟨I2, aI2, sI2, hP, hD⟩ := fx (P := fun z => va_P D9 cls9 (WW a cB cI cJ cG z _ O) H ∧ va_D A0 (WW a cB cI cJ cG z _ O)) ⟨wp_3 hP, wd_3 hD⟩
    refine lv_iconst (v := 0) hx hb d_Ga_keep_28 (by decide) ?_
    refine lv_topq (y := nI 0) (rfl) ?_
    exact hret _ _ _ _ _ _ _ hS hP hD d_Ga_keep_29 (nr_z (Or.inl rfl)) (Or.inr ⟨fun z9 => by have z9 := (okE_add hO hs hty hki).mp z9; have z8 := z9.2; simp only [List.length_append] at z8; omega, rfl, (sm_mo sI2 (by decide)), aI2, rfl⟩)
  · have c1 : ¬ (65536 < (fl es).length + ((eN x).length + (eD x).length)) := fun z9 => c1 ((nI_ltI (a := 65536) (b := (fl es).length + ((eN x).length + (eD x).length)) (by omega) (by omega)).mpr z9)
    refine lv_aload_n hx hb d_Ga_keep_12 rfl (lv_at hl 0 rfl) ?_
    refine lv_iload_n hx hb d_Ga_keep_13 rfl (lv_at hl 1 rfl) ?_
    refine mw_cV (ci := 2) (k := 19) C0 (m_Ga_hasPlaceIn l D9 cB cI cJ cG a O _ _ es (eS x) hs hG hO) g_315 g_3 g_312 g_314 gs_Ga_hasPlaceIn ⟨by decide +kernel, by decide +kernel, show Option.map (fun d => d.parameters.length) (parseMethodDescriptor y_Ga_hasPlaceIn.desc) = some 1 by decide +kernel⟩ ⟨by decide, by decide⟩ rfl rfl hP hD hS hA rfl ww_19 hl.1 (Nat.le_of_ble_eq_true rfl) rfl d_Ga_keep_14 ⟨by decide, by decide⟩ (fun v9 w9 H locs hq hP hD hS => ?_)
    obtain ⟨I3, F4, hw9, q5⟩ := hq
    subst hw9
    obtain ⟨rfl, rfl, rfl⟩ := q5
    refine lv_if_ne (tgt := 30) hx hb d_Ga_keep_17 (by decide) (fun c6 => ?_) (fun c6 => ?_)
    · have c6 : hp (eS x) es = true := bI_t c6
      refine lv_aload_n hx hb d_Ga_keep_30 rfl (lv_at hl 0 rfl) ?_
      refine va_get (D := D9) (ci := 2) (C := R_Ga) (T := F_Ga) (N := 11) hx hb hts i_Ga hown hK hP 19 ww_19 rfl 8 (by decide) (hts _ g_81) (fun _ h9 => h9) rfl d_Ga_keep_31 ?_
      refine lv_iconst (v := 0) hx hb d_Ga_keep_34 (by decide) ?_
      refine lv_topq (y := nI 0) (rfl) ?_
      refine va_iald (D := D9) hx hb hK hP 16 1 ww_16 rfl (vp_in_nI (by omega) (by decide)) d_Ga_keep_35 ?_
      refine lv_topq (y := nI (cn 0 es)) (by rw [nI_clamp (by omega)]; exact (hG.2.1 0 (by omega))) ?_
      refine lv_aload_n hx hb d_Ga_keep_36 rfl (lv_at hl 0 rfl) ?_
      refine mw_cV (ci := 2) (k := 19) C0 (m_Ga_records l D9 cB cI cJ cG a O _ _ es hG) g_319 g_3 g_316 g_318 gs_Ga_records ⟨by decide +kernel, by decide +kernel, show Option.map (fun d => d.parameters.length) (parseMethodDescriptor y_Ga_records.desc) = some 0 by decide +kernel⟩ ⟨by decide, by decide⟩ rfl rfl hP hD hS hA rfl ww_19 hl.1 (Nat.le_of_ble_eq_true rfl) rfl d_Ga_keep_37 ⟨by decide, by decide⟩ (fun v9 w9 H locs hq hP hD hS => ?_)
      obtain ⟨I7, F8, hw9, q9⟩ := hq
      subst hw9
      obtain ⟨rfl, rfl, rfl⟩ := q9
      refine lv_iadd hx hb d_Ga_keep_40 ?_
      refine lv_topq (y := nI (cn 0 es + (cn 1 es + cn 2 es + cn 3 es))) (nI_add _ _) ?_
      have hln := okE_len hO
      have hhp := hp_t c6
      have hcn : cn (eS x) es < 1000 := by rcases lt4 hs with e0 | e0 | e0 | e0 <;> simp [e0] at hhp ⊢ <;> omega
      have hrow : cn 0 es + (cn 1 es + cn 2 es + cn 3 es) = es.length := by omega
      refine lv_topq (y := nI es.length) (congrArg nI hrow) ?_
      refine lv_istore (lv' := [(7, _), (0, _), (1, _), (2, _), (3, _), (4, _), (5, _), (6, _)]) hx hb d_Ga_keep_41 hl (by decide) rfl (fun ls hl => ?_)
      refine lv_aload_n hx hb d_Ga_keep_43 rfl (lv_at hl 1 rfl) ?_
      refine va_get (D := D9) (ci := 2) (C := R_Ga) (T := F_Ga) (N := 11) hx hb hts i_Ga hown hK hP 19 ww_19 rfl 1 (by decide) (hts _ g_61) (fun _ h9 => h9) rfl d_Ga_keep_44 ?_
      refine lv_iload hx hb d_Ga_keep_47 (lv_at hl 0 rfl) ?_
      refine lv_iload_n hx hb d_Ga_keep_49 rfl (lv_at hl 3 rfl) ?_
      refine va_iast (D := D9) hx hb hK hP hD hS 5 1 ww_5 rfl (vp_in_nI (by omega) (by decide)) d_Ga_keep_50 (fun H locs hP hD hS => ?_)
      obtain ⟨F10, aF10, sF10, hP, hD⟩ := fx (P := fun z => va_P D9 cls9 (WW a cB cI cJ cG _ z O) H ∧ va_D A0 (WW a cB cI cJ cG _ z O)) ⟨wpa_5 hP, wda_5 hD⟩
      rw [nI_clamp (by omega)] at aF10
      refine lv_aload_n hx hb d_Ga_keep_51 rfl (lv_at hl 1 rfl) ?_
      refine va_get (D := D9) (ci := 2) (C := R_Ga) (T := F_Ga) (N := 11) hx hb hts i_Ga hown hK hP 19 ww_19 rfl 2 (by decide) (hts _ g_64) (fun _ h9 => h9) rfl d_Ga_keep_52 ?_
      refine lv_iload hx hb d_Ga_keep_55 (lv_at hl 0 rfl) ?_
      refine lv_iload_n hx hb d_Ga_keep_57 rfl (lv_at hl 4 rfl) ?_
      refine va_iast (D := D9) hx hb hK hP hD hS 6 1 ww_6 rfl (vp_in_nI (by omega) (by decide)) d_Ga_keep_58 (fun H locs hP hD hS => ?_)
      obtain ⟨F11, aF11, sF11, hP, hD⟩ := fx (P := fun z => va_P D9 cls9 (WW a cB cI cJ cG _ z O) H ∧ va_D A0 (WW a cB cI cJ cG _ z O)) ⟨wpa_6 hP, wda_6 hD⟩
      rw [nI_clamp (by omega)] at aF11
      rw [(sF10 6 (by decide))] at aF11
      refine lv_aload_n hx hb d_Ga_keep_59 rfl (lv_at hl 1 rfl) ?_
      refine va_get (D := D9) (ci := 2) (C := R_Ga) (T := F_Ga) (N := 11) hx hb hts i_Ga hown hK hP 19 ww_19 rfl 3 (by decide) (hts _ g_67) (fun _ h9 => h9) rfl d_Ga_keep_60 ?_
      refine lv_iload hx hb d_Ga_keep_63 (lv_at hl 0 rfl) ?_
      refine lv_aload_n hx hb d_Ga_keep_65 rfl (lv_at hl 1 rfl) ?_
      refine va_get (D := D9) (ci := 2) (C := R_Ga) (T := F_Ga) (N := 11) hx hb hts i_Ga hown hK hP 19 ww_19 rfl 0 (by decide) (hts _ g_57) (fun _ h9 => h9) rfl d_Ga_keep_66 ?_
      refine va_getN (D := D9) (ci := 0) (C := R_By) (T := F_By) (N := 2) hx hb hts i_By hown hK hP 3 ww_3 rfl 1 (by decide) (hts _ g_37) (fun _ h9 => h9) rfl d_Ga_keep_69 ?_
      refine lv_topq (y := nI ((fl es).length + ((eN x).length + (eD x).length))) (hl3) ?_
      refine lv_iload_n hx hb d_Ga_keep_72 rfl (lv_at hl 3 rfl) ?_
      refine lv_isub hx hb d_Ga_keep_73 ?_
      refine lv_topq (y := nI ((eN x).length + (eD x).length)) ((pk_sub (by omega)).trans (congrArg nI (by omega))) ?_
      refine lv_iload_n hx hb d_Ga_keep_74 rfl (lv_at hl 4 rfl) ?_
      refine lv_isub hx hb d_Ga_keep_75 ?_
      refine lv_topq (y := nI ((eD x).length)) ((pk_sub (by omega)).trans (congrArg nI (by omega))) ?_
      refine va_iast (D := D9) hx hb hK hP hD hS 7 1 ww_7 rfl (vp_in_nI (by omega) (by decide)) d_Ga_keep_76 (fun H locs hP hD hS => ?_)
      obtain ⟨F12, aF12, sF12, hP, hD⟩ := fx (P := fun z => va_P D9 cls9 (WW a cB cI cJ cG _ z O) H ∧ va_D A0 (WW a cB cI cJ cG _ z O)) ⟨wpa_7 hP, wda_7 hD⟩
      rw [nI_clamp (by omega)] at aF12
      rw [((sF11 7 (by decide)).trans (sF10 7 (by decide)))] at aF12
      refine lv_aload_n hx hb d_Ga_keep_77 rfl (lv_at hl 1 rfl) ?_
      refine va_get (D := D9) (ci := 2) (C := R_Ga) (T := F_Ga) (N := 11) hx hb hts i_Ga hown hK hP 19 ww_19 rfl 4 (by decide) (hts _ g_70) (fun _ h9 => h9) rfl d_Ga_keep_78 ?_
      refine lv_iload hx hb d_Ga_keep_81 (lv_at hl 0 rfl) ?_
      refine lv_iload hx hb d_Ga_keep_83 (lv_at hl 5 rfl) ?_
      refine va_iast (D := D9) hx hb hK hP hD hS 8 1 ww_8 rfl (vp_in_nI (by omega) (by decide)) d_Ga_keep_85 (fun H locs hP hD hS => ?_)
      obtain ⟨F13, aF13, sF13, hP, hD⟩ := fx (P := fun z => va_P D9 cls9 (WW a cB cI cJ cG _ z O) H ∧ va_D A0 (WW a cB cI cJ cG _ z O)) ⟨wpa_8 hP, wda_8 hD⟩
      rw [nI_clamp (by omega)] at aF13
      rw [((sF12 8 (by decide)).trans ((sF11 8 (by decide)).trans (sF10 8 (by decide))))] at aF13
      refine lv_aload_n hx hb d_Ga_keep_86 rfl (lv_at hl 1 rfl) ?_
      refine va_get (D := D9) (ci := 2) (C := R_Ga) (T := F_Ga) (N := 11) hx hb hts i_Ga hown hK hP 19 ww_19 rfl 5 (by decide) (hts _ g_73) (fun _ h9 => h9) rfl d_Ga_keep_87 ?_
      refine lv_iload hx hb d_Ga_keep_90 (lv_at hl 0 rfl) ?_
      refine lv_iload hx hb d_Ga_keep_92 (lv_at hl 6 rfl) ?_
      refine va_iast (D := D9) hx hb hK hP hD hS 9 1 ww_9 rfl (vp_in_nI (by omega) (by decide)) d_Ga_keep_94 (fun H locs hP hD hS => ?_)
      obtain ⟨F14, aF14, sF14, hP, hD⟩ := fx (P := fun z => va_P D9 cls9 (WW a cB cI cJ cG _ z O) H ∧ va_D A0 (WW a cB cI cJ cG _ z O)) ⟨wpa_9 hP, wda_9 hD⟩
      rw [nI_clamp (by omega)] at aF14
      rw [((sF13 9 (by decide)).trans ((sF12 9 (by decide)).trans ((sF11 9 (by decide)).trans (sF10 9 (by decide)))))] at aF14
      refine lv_aload_n hx hb d_Ga_keep_95 rfl (lv_at hl 1 rfl) ?_
      refine va_get (D := D9) (ci := 2) (C := R_Ga) (T := F_Ga) (N := 11) hx hb hts i_Ga hown hK hP 19 ww_19 rfl 6 (by decide) (hts _ g_76) (fun _ h9 => h9) rfl d_Ga_keep_96 ?_
      refine lv_iload hx hb d_Ga_keep_99 (lv_at hl 0 rfl) ?_
      refine lv_iload hx hb d_Ga_keep_101 (lv_at hl 7 rfl) ?_
      refine va_iast (D := D9) hx hb hK hP hD hS 10 1 ww_10 rfl (vp_in_nI (by omega) (by decide)) d_Ga_keep_103 (fun H locs hP hD hS => ?_)
      obtain ⟨F15, aF15, sF15, hP, hD⟩ := fx (P := fun z => va_P D9 cls9 (WW a cB cI cJ cG _ z O) H ∧ va_D A0 (WW a cB cI cJ cG _ z O)) ⟨wpa_10 hP, wda_10 hD⟩
      rw [nI_clamp (by omega)] at aF15
      rw [((sF14 10 (by decide)).trans ((sF13 10 (by decide)).trans ((sF12 10 (by decide)).trans ((sF11 10 (by decide)).trans (sF10 10 (by decide))))))] at aF15
      refine lv_aload_n hx hb d_Ga_keep_104 rfl (lv_at hl 1 rfl) ?_
      refine va_get (D := D9) (ci := 2) (C := R_Ga) (T := F_Ga) (N := 11) hx hb hts i_Ga hown hK hP 19 ww_19 rfl 7 (by decide) (hts _ g_79) (fun _ h9 => h9) rfl d_Ga_keep_105 ?_
      refine lv_iload_n hx hb d_Ga_keep_108 rfl (lv_at hl 2 rfl) ?_
      refine va_aldG (D := D9) hx hb hK hP 11 3 ww_11 rfl (vp_in_nI (by omega) (by decide)) d_Ga_keep_109 ?_
      rw [nI_clamp (by omega), va_rf4 hs]
      refine lv_aload_n hx hb d_Ga_keep_110 rfl (lv_at hl 1 rfl) ?_
      refine va_get (D := D9) (ci := 2) (C := R_Ga) (T := F_Ga) (N := 11) hx hb hts i_Ga hown hK hP 19 ww_19 rfl 8 (by decide) (hts _ g_81) (fun _ h9 => h9) rfl d_Ga_keep_111 ?_
      refine lv_iload_n hx hb d_Ga_keep_114 rfl (lv_at hl 2 rfl) ?_
      refine va_iald (D := D9) hx hb hK hP 16 1 ww_16 rfl (vp_in_nI (by omega) (by decide)) d_Ga_keep_115 ?_
      refine lv_topq (y := nI (cn (eS x) es)) (by rw [nI_clamp (by omega)]; exact ((congrFun (sF15 16 (by decide)) _).trans ((congrFun (sF14 16 (by decide)) _).trans ((congrFun (sF13 16 (by decide)) _).trans ((congrFun (sF12 16 (by decide)) _).trans ((congrFun (sF11 16 (by decide)) _).trans ((congrFun (sF10 16 (by decide)) _).trans (hG.2.1 (eS x) hs)))))))) ?_
      refine lv_iload hx hb d_Ga_keep_116 (lv_at hl 0 rfl) ?_
      refine va_iast (D := D9) hx hb hK hP hD hS (12 + eS x) 1 (ww_row hs) rfl (vp_in_nI (by omega) (by decide)) d_Ga_keep_118 (fun H locs hP hD hS => ?_)
      obtain ⟨F16, aF16, sF16, hP, hD⟩ := fx (P := fun z => va_P D9 cls9 (WW a cB cI cJ cG _ z O) H ∧ va_D A0 (WW a cB cI cJ cG _ z O)) ⟨wpa_row hs hP, wda_row hs hD⟩
      rw [nI_clamp (by omega)] at aF16
      rw [((sF15 (12 + eS x) (by simp only [List.mem_cons, List.not_mem_nil, or_false]; omega)).trans ((sF14 (12 + eS x) (by simp only [List.mem_cons, List.not_mem_nil, or_false]; omega)).trans ((sF13 (12 + eS x) (by simp only [List.mem_cons, List.not_mem_nil, or_false]; omega)).trans ((sF12 (12 + eS x) (by simp only [List.mem_cons, List.not_mem_nil, or_false]; omega)).trans ((sF11 (12 + eS x) (by simp only [List.mem_cons, List.not_mem_nil, or_false]; omega)).trans (sF10 (12 + eS x) (by simp only [List.mem_cons, List.not_mem_nil, or_false]; omega)))))))] at aF16
      refine lv_aload_n hx hb d_Ga_keep_119 rfl (lv_at hl 1 rfl) ?_
      refine va_get (D := D9) (ci := 2) (C := R_Ga) (T := F_Ga) (N := 11) hx hb hts i_Ga hown hK hP 19 ww_19 rfl 8 (by decide) (hts _ g_81) (fun _ h9 => h9) rfl d_Ga_keep_120 ?_
      refine lv_iload_n hx hb d_Ga_keep_123 rfl (lv_at hl 2 rfl) ?_
      refine lv_dup2_11 hx hb d_Ga_keep_124 rfl rfl ?_
      refine va_iald (D := D9) hx hb hK hP 16 1 ww_16 rfl (vp_in_nI (by omega) (by decide)) d_Ga_keep_125 ?_
      refine lv_topq (y := nI (cn (eS x) es)) (by rw [nI_clamp (by omega)]; exact ((congrFun (sF16 16 (rw_ne hs)) _).trans ((congrFun (sF15 16 (by decide)) _).trans ((congrFun (sF14 16 (by decide)) _).trans ((congrFun (sF13 16 (by decide)) _).trans ((congrFun (sF12 16 (by decide)) _).trans ((congrFun (sF11 16 (by decide)) _).trans ((congrFun (sF10 16 (by decide)) _).trans (hG.2.1 (eS x) hs))))))))) ?_
      refine lv_iconst (v := 1) hx hb d_Ga_keep_126 (by decide) ?_
      refine lv_topq (y := nI 1) (rfl) ?_
      refine lv_iadd hx hb d_Ga_keep_127 ?_
      refine lv_topq (y := nI (cn (eS x) es + 1)) (nI_add _ _) ?_
      refine va_iast (D := D9) hx hb hK hP hD hS 16 1 ww_16 rfl (vp_in_nI (by omega) (by decide)) d_Ga_keep_128 (fun H locs hP hD hS => ?_)
      obtain ⟨F17, aF17, sF17, hP, hD⟩ := fx (P := fun z => va_P D9 cls9 (WW a cB cI cJ cG _ z O) H ∧ va_D A0 (WW a cB cI cJ cG _ z O)) ⟨wpa_16 hP, wda_16 hD⟩
      rw [nI_clamp (by omega)] at aF17
      rw [((sF16 16 (rw_ne hs)).trans ((sF15 16 (by decide)).trans ((sF14 16 (by decide)).trans ((sF13 16 (by decide)).trans ((sF12 16 (by decide)).trans ((sF11 16 (by decide)).trans (sF10 16 (by decide))))))))] at aF17
      refine lv_iconst (v := 1) hx hb d_Ga_keep_129 (by decide) ?_
      refine lv_topq (y := nI 1) (rfl) ?_
      exact hret _ _ _ _ _ _ _ hS hP hD d_Ga_keep_130 (nr_z (Or.inr rfl)) (Or.inl ⟨(okE_add hO hs hty hki).mpr ⟨c6, by simp only [List.length_append]; omega⟩, rfl, rfl, GaR_add hG hB hs ((sF17 4 (by decide)).trans ((sF16 4 (rw_ne hs)).trans ((sF15 4 (by decide)).trans ((sF14 4 (by decide)).trans ((sF13 4 (by decide)).trans ((sF12 4 (by decide)).trans ((sF11 4 (by decide)).trans (sF10 4 (by decide))))))))) (((sF17 5 (by decide)).trans ((sF16 5 (rw_ne hs)).trans ((sF15 5 (by decide)).trans ((sF14 5 (by decide)).trans ((sF13 5 (by decide)).trans ((sF12 5 (by decide)).trans (sF11 5 (by decide)))))))).trans aF10) (((sF17 6 (by decide)).trans ((sF16 6 (rw_ne hs)).trans ((sF15 6 (by decide)).trans ((sF14 6 (by decide)).trans ((sF13 6 (by decide)).trans (sF12 6 (by decide))))))).trans aF11) (((sF17 7 (by decide)).trans ((sF16 7 (rw_ne hs)).trans ((sF15 7 (by decide)).trans ((sF14 7 (by decide)).trans (sF13 7 (by decide)))))).trans aF12) (((sF17 8 (by decide)).trans ((sF16 8 (rw_ne hs)).trans ((sF15 8 (by decide)).trans (sF14 8 (by decide))))).trans aF13) (((sF17 9 (by decide)).trans ((sF16 9 (rw_ne hs)).trans (sF15 9 (by decide)))).trans aF14) (((sF17 10 (by decide)).trans (sF16 10 (rw_ne hs))).trans aF15) aF17 ((sF17 (12 + eS x) (by simp only [List.mem_cons, List.not_mem_nil, or_false]; omega)).trans aF16) (fun s4 h4 h5 => ((sF17 (12 + s4) (by simp only [List.mem_cons, List.not_mem_nil, or_false]; omega)).trans ((sF16 (12 + s4) (by simp only [List.mem_cons, List.not_mem_nil, or_false]; omega)).trans ((sF15 (12 + s4) (by simp only [List.mem_cons, List.not_mem_nil, or_false]; omega)).trans ((sF14 (12 + s4) (by simp only [List.mem_cons, List.not_mem_nil, or_false]; omega)).trans ((sF13 (12 + s4) (by simp only [List.mem_cons, List.not_mem_nil, or_false]; omega)).trans ((sF12 (12 + s4) (by simp only [List.mem_cons, List.not_mem_nil, or_false]; omega)).trans ((sF11 (12 + s4) (by simp only [List.mem_cons, List.not_mem_nil, or_false]; omega)).trans (sF10 (12 + s4) (by simp only [List.mem_cons, List.not_mem_nil, or_false]; omega)))))))))) (fun e he => (hO.2.2.2 e he).1), (sm_tr (sm_tr (sm_tr (sm_tr (sm_tr (sm_tr (sm_tr (sm_mo sF10 (by decide)) (sm_mo sF11 (by decide))) (sm_mo sF12 (by decide))) (sm_mo sF13 (by decide))) (sm_mo sF14 (by decide))) (sm_mo sF15 (by decide))) (sm_mo sF16 (row_in hs (by decide)))) (sm_mo sF17 (by decide)))⟩)
    · have c6 : hp (eS x) es = false := bI_f c6
      refine lv_aload_n hx hb d_Ga_keep_20 rfl (lv_at hl 0 rfl) ?_
      refine va_get (D := D9) (ci := 2) (C := R_Ga) (T := F_Ga) (N := 11) hx hb hts i_Ga hown hK hP 19 ww_19 rfl 0 (by decide) (hts _ g_57) (fun _ h9 => h9) rfl d_Ga_keep_21 ?_
      refine lv_iload_n hx hb d_Ga_keep_24 rfl (lv_at hl 2 rfl) ?_
      refine va_putN (D := D9) (ty := .int) (ci := 0) (C := R_By) (T := F_By) (N := 2) hx hb hts i_By t_By t_By_ok n_By hown hK hP hD hS 3 ww_3 rfl 1 (by decide) (hts _ g_37) (fun _ h9 => h9) rfl (by decide +kernel) rfl rfl (Nat.le_of_ble_eq_true rfl) d_Ga_keep_25 (fun H locs hP hD hS => ?_)
      obtain ⟨I18, aI18, sI18, hP, hD⟩ := fx (P := fun z => va_P D9 cls9 (WW a cB cI cJ cG z _ O) H ∧ va_D A0 (WW a cB cI cJ cG z _ O)) ⟨wp_3 hP, wd_3 hD⟩
      refine lv_iconst (v := 0) hx hb d_Ga_keep_28 (by decide) ?_
      refine lv_topq (y := nI 0) (rfl) ?_
      exact hret _ _ _ _ _ _ _ hS hP hD d_Ga_keep_29 (nr_z (Or.inl rfl)) (Or.inr ⟨fun z9 => by have z9 := (okE_add hO hs hty hki).mp z9; rw [c6] at z9; exact absurd z9.1 (by decide), rfl, (sm_mo sI18 (by decide)), aI18, rfl⟩)
set_option maxHeartbeats 4000000 in
set_option maxRecDepth 100000 in
/-- Gathered.rowOf -/
theorem m_Ga_rowOf (l : Launch) (D9 : va_G) (cB cI cJ cG : ClassId) (a : Nat → Nat) (O : Nat → Int64) (I : Nat → Int32) (F : Nat → Nat → Int32) (es : List En9) (x y : Int32) (hG : GaR F es) (hO : okE es) : MC l D9 cB cI cJ cG a O y_Ga_rowOf b_Ga_rowOf 3 (some .int) 0 [.ref (a 19), .int (x), .int (y)] I F (fun v I' F' => v = some (.int (oI (rI x y es))) ∧ I = I' ∧ F = F') := by
  refine mc_of (by decide) (Nat.le_of_ble_eq_true rfl) ?_
  intro p e s m below meth c ls A0 Q C0 hP hD hA hS hl hret
  obtain ⟨hx, hb, hml, hr, hlocks, hown, hts, hK⟩ := id C0
  have hl : lv_has ls 3 [(0, .ref (a 19)), (1, .int (x)), (2, .int (y))] := hl
  have k0 := hO.1; have k1 := hO.2.1; have k2 := hO.2.2.1
  rcases pk_ix x (n := 4) (by decide) with h9 | h9 | ⟨t, ht, rfl⟩
  · refine lv_iload_n hx hb d_Ga_rowOf_0 rfl (lv_at hl 1 rfl) ?_
    refine lv_if_lt (tgt := 23) hx hb d_Ga_rowOf_1 (by decide) (fun c1 => ?_) (fun c1 => ?_)
    · refine lv_iconst (v := -1) hx hb d_Ga_rowOf_23 (by decide) ?_
      refine lv_topq (y := (-1 : Int32)) rfl ?_
      exact hret _ _ _ _ _ _ _ hS hP hD d_Ga_rowOf_24 nr_i (⟨by unfold rI; rw [if_pos (Or.inl h9)]; rfl, rfl, rfl⟩)
    · exact absurd h9 c1
  · refine lv_iload_n hx hb d_Ga_rowOf_0 rfl (lv_at hl 1 rfl) ?_
    refine lv_if_lt (tgt := 23) hx hb d_Ga_rowOf_1 (by decide) (fun c2 => ?_) (fun c2 => ?_)
    · exact absurd (Int32.lt_of_lt_of_le c2 (show (0 : Int32) ≤ nI 4 by decide)) (Int32.not_lt.mpr h9)
    · refine lv_iload_n hx hb d_Ga_rowOf_4 rfl (lv_at hl 1 rfl) ?_
      refine lv_iconst (v := 4) hx hb d_Ga_rowOf_5 (by decide) ?_
      refine lv_topq (y := nI 4) (rfl) ?_
      refine lv_icmp_ge (tgt := 23) hx hb d_Ga_rowOf_6 (by decide) (fun c3 => ?_) (fun c3 => ?_)
      · refine lv_iconst (v := -1) hx hb d_Ga_rowOf_23 (by decide) ?_
        refine lv_topq (y := (-1 : Int32)) rfl ?_
        exact hret _ _ _ _ _ _ _ hS hP hD d_Ga_rowOf_24 nr_i (⟨by unfold rI; rw [if_pos (Or.inr (Or.inl (show (4 : Int32) ≤ x from h9)))]; rfl, rfl, rfl⟩)
      · exact absurd h9 c3
  · have ct : cn t es ≤ 1000 := by rcases lt4 ht with rfl | rfl | rfl | rfl <;> omega
    refine lv_iload_n hx hb d_Ga_rowOf_0 rfl (lv_at hl 1 rfl) ?_
    refine lv_if_lt (tgt := 23) hx hb d_Ga_rowOf_1 (by decide) (fun c4 => ?_) (fun c4 => ?_)
    · have c4 : t < 0 := (nI_ltI (a := t) (b := 0) (by omega) (by omega)).mp c4
      exfalso; omega
    · have c4 : ¬ (t < 0) := fun z9 => c4 ((nI_ltI (a := t) (b := 0) (by omega) (by omega)).mpr z9)
      refine lv_iload_n hx hb d_Ga_rowOf_4 rfl (lv_at hl 1 rfl) ?_
      refine lv_iconst (v := 4) hx hb d_Ga_rowOf_5 (by decide) ?_
      refine lv_topq (y := nI 4) (rfl) ?_
      refine lv_icmp_ge (tgt := 23) hx hb d_Ga_rowOf_6 (by decide) (fun c5 => ?_) (fun c5 => ?_)
      · have c5 : 4 ≤ t := (nI_leI (a := 4) (b := t) (by omega) (by omega)).mp c5
        exfalso; omega
      · have c5 : ¬ (4 ≤ t) := fun z9 => c5 ((nI_leI (a := 4) (b := t) (by omega) (by omega)).mpr z9)
        refine lv_iload_n hx hb d_Ga_rowOf_9 rfl (lv_at hl 2 rfl) ?_
        refine lv_if_lt (tgt := 23) hx hb d_Ga_rowOf_10 (by decide) (fun c6 => ?_) (fun c6 => ?_)
        · refine lv_iconst (v := -1) hx hb d_Ga_rowOf_23 (by decide) ?_
          refine lv_topq (y := (-1 : Int32)) rfl ?_
          exact hret _ _ _ _ _ _ _ hS hP hD d_Ga_rowOf_24 nr_i (⟨by unfold rI; rw [if_pos (Or.inr (Or.inr c6))]; rfl, rfl, rfl⟩)
        · obtain ⟨k, hk, rfl⟩ := nI_of c6
          refine lv_iload_n hx hb d_Ga_rowOf_13 rfl (lv_at hl 2 rfl) ?_
          refine lv_aload_n hx hb d_Ga_rowOf_14 rfl (lv_at hl 0 rfl) ?_
          refine va_get (D := D9) (ci := 2) (C := R_Ga) (T := F_Ga) (N := 11) hx hb hts i_Ga hown hK hP 19 ww_19 rfl 8 (by decide) (hts _ g_81) (fun _ h9 => h9) rfl d_Ga_rowOf_15 ?_
          refine lv_iload_n hx hb d_Ga_rowOf_18 rfl (lv_at hl 1 rfl) ?_
          refine va_iald (D := D9) hx hb hK hP 16 1 ww_16 rfl (vp_in_nI (by omega) (by decide)) d_Ga_rowOf_19 ?_
          refine lv_topq (y := nI (cn t es)) (by rw [nI_clamp (by omega)]; exact (hG.2.1 t ht)) ?_
          refine lv_icmp_lt (tgt := 25) hx hb d_Ga_rowOf_20 (by decide) (fun c7 => ?_) (fun c7 => ?_)
          · have c7 : k < cn t es := (nI_ltI (a := k) (b := cn t es) (by omega) (by omega)).mp c7
            obtain ⟨r9, e9, g1, g2, g3, g4, g5, g6⟩ := GaR_row hG c7
            refine lv_aload_n hx hb d_Ga_rowOf_25 rfl (lv_at hl 0 rfl) ?_
            refine va_get (D := D9) (ci := 2) (C := R_Ga) (T := F_Ga) (N := 11) hx hb hts i_Ga hown hK hP 19 ww_19 rfl 7 (by decide) (hts _ g_79) (fun _ h9 => h9) rfl d_Ga_rowOf_26 ?_
            refine lv_iload_n hx hb d_Ga_rowOf_29 rfl (lv_at hl 1 rfl) ?_
            refine va_aldG (D := D9) hx hb hK hP 11 3 ww_11 rfl (vp_in_nI (by omega) (by decide)) d_Ga_rowOf_30 ?_
            rw [nI_clamp (by omega), va_rf4 ht]
            refine lv_iload_n hx hb d_Ga_rowOf_31 rfl (lv_at hl 2 rfl) ?_
            refine va_iald (D := D9) hx hb hK hP (12 + t) 1 (ww_row ht) rfl (vp_in_nI (show k < 1000 by have := lt4 ht; rcases this with rfl | rfl | rfl | rfl <;> omega) (by decide)) d_Ga_rowOf_32 ?_
            refine lv_topq (y := nI r9) (by rw [nI_clamp (by omega)]; exact g5) ?_
            exact hret _ _ _ _ _ _ _ hS hP hD d_Ga_rowOf_33 nr_i (⟨by rw [rI_n ht hk, g1]; rfl, rfl, rfl⟩)
          · have c7 : ¬ (k < cn t es) := fun z9 => c7 ((nI_ltI (a := k) (b := cn t es) (by omega) (by omega)).mpr z9)
            refine lv_iconst (v := -1) hx hb d_Ga_rowOf_23 (by decide) ?_
            refine lv_topq (y := (-1 : Int32)) rfl ?_
            exact hret _ _ _ _ _ _ _ hS hP hD d_Ga_rowOf_24 nr_i (⟨by rw [rI_n ht hk]; cases h8 : ix t k es with | none => rfl | some r => have := (ix_lt h8).2; exfalso; omega, rfl, rfl⟩)
set_option maxHeartbeats 4000000 in
set_option maxRecDepth 100000 in
/-- Gathered.isNeverLeftOut -/
theorem m_Ga_isNeverLeftOut (l : Launch) (D9 : va_G) (cB cI cJ cG : ClassId) (a : Nat → Nat) (O : Nat → Int64) (I : Nat → Int32) (F : Nat → Nat → Int32) (es : List En9) (r : Nat) (e9 : En9) (hre : es[r]? = some e9) (hG : GaR F es) (hO : okE es) (t : Nat) (ht : t < 4) : MC l D9 cB cI cJ cG a O y_Ga_isNeverLeftOut b_Ga_isNeverLeftOut 3 (some .boolean) 0 [.ref (a 19), .int (nI t), .int (nI r)] I F (fun v I' F' => v = some (.int (bI (decide (t = 3) && decide (eT e9 = 41)))) ∧ I = I' ∧ F = F') := by
  refine mc_of (by decide) (Nat.le_of_ble_eq_true rfl) ?_
  intro p e s m below meth c ls A0 Q C0 hP hD hA hS hl hret
  obtain ⟨hx, hb, hml, hr, hlocks, hown, hts, hK⟩ := id C0
  have hl : lv_has ls 3 [(0, .ref (a 19)), (1, .int (nI t)), (2, .int (nI r))] := hl
  have hln := okE_len hO
  have hrl := (List.getElem?_eq_some_iff.mp hre).1
  obtain ⟨z1, z2, z3, z4, z5, z6, z7⟩ := hG.1 r e9 hre
  obtain ⟨y1, y2, y3⟩ := hO.2.2.2 e9 (List.mem_of_getElem? hre)
  refine lv_iload_n hx hb d_Ga_isNeverLeftOut_0 rfl (lv_at hl 1 rfl) ?_
  refine lv_iconst (v := 3) hx hb d_Ga_isNeverLeftOut_1 (by decide) ?_
  refine lv_topq (y := nI 3) (rfl) ?_
  refine lv_icmp_ne (tgt := 20) hx hb d_Ga_isNeverLeftOut_2 (by decide) (fun c1 => ?_) (fun c1 => ?_)
  · have c1 : ¬ (t = 3) := fun z9 => c1 ((nI_eq (a := t) (b := 3) (by omega) (by omega)).mpr z9)
    refine lv_iconst (v := 0) hx hb d_Ga_isNeverLeftOut_20 (by decide) ?_
    refine lv_topq (y := nI 0) (rfl) ?_
    exact hret _ _ _ _ _ _ _ hS hP hD d_Ga_isNeverLeftOut_21 (nr_z (Or.inl rfl)) (by have e8 : (decide (t = 3) && decide (eT e9 = 41)) = false := (by simp <;> omega); rw [e8]; exact ⟨rfl, rfl, rfl⟩)
  · have c1 : t = 3 := (nI_eq (a := t) (b := 3) (by omega) (by omega)).mp c1
    refine lv_aload_n hx hb d_Ga_isNeverLeftOut_5 rfl (lv_at hl 0 rfl) ?_
    refine va_get (D := D9) (ci := 2) (C := R_Ga) (T := F_Ga) (N := 11) hx hb hts i_Ga hown hK hP 19 ww_19 rfl 4 (by decide) (hts _ g_70) (fun _ h9 => h9) rfl d_Ga_isNeverLeftOut_6 ?_
    refine lv_iload_n hx hb d_Ga_isNeverLeftOut_9 rfl (lv_at hl 2 rfl) ?_
    refine va_iald (D := D9) hx hb hK hP 8 1 ww_8 rfl (vp_in_nI (by omega) (by decide)) d_Ga_isNeverLeftOut_10 ?_
    refine lv_topq (y := nI (eT e9)) (by rw [nI_clamp (by omega)]; exact z4) ?_
    refine lv_bipush (v := 41) hx hb d_Ga_isNeverLeftOut_11 (by decide) ?_
    refine lv_topq (y := nI 41) (rfl) ?_
    refine lv_icmp_ne (tgt := 20) hx hb d_Ga_isNeverLeftOut_13 (by decide) (fun c2 => ?_) (fun c2 => ?_)
    · have c2 : ¬ (eT e9 = 41) := fun z9 => c2 ((nI_eq (a := eT e9) (b := 41) (by omega) (by omega)).mpr z9)
      refine lv_iconst (v := 0) hx hb d_Ga_isNeverLeftOut_20 (by decide) ?_
      refine lv_topq (y := nI 0) (rfl) ?_
      exact hret _ _ _ _ _ _ _ hS hP hD d_Ga_isNeverLeftOut_21 (nr_z (Or.inl rfl)) (by have e8 : (decide (t = 3) && decide (eT e9 = 41)) = false := (by simp <;> omega); rw [e8]; exact ⟨rfl, rfl, rfl⟩)
    · have c2 : eT e9 = 41 := (nI_eq (a := eT e9) (b := 41) (by omega) (by omega)).mp c2
      refine lv_iconst (v := 1) hx hb d_Ga_isNeverLeftOut_16 (by decide) ?_
      refine lv_topq (y := nI 1) (rfl) ?_
      refine lv_goto (tgt := 21) hx hb d_Ga_isNeverLeftOut_17 (by decide) ?_
      exact hret _ _ _ _ _ _ _ hS hP hD d_Ga_isNeverLeftOut_21 (nr_z (Or.inr rfl)) (by have e8 : (decide (t = 3) && decide (eT e9 = 41)) = true := (by simp <;> omega); rw [e8]; exact ⟨rfl, rfl, rfl⟩)
set_option maxHeartbeats 4000000 in
set_option maxRecDepth 100000 in
/-- Gathered.lengthUnderRoot -/
theorem m_Ga_lengthUnderRoot (l : Launch) (D9 : va_G) (cB cI cJ cG : ClassId) (a : Nat → Nat) (O : Nat → Int64) (I : Nat → Int32) (F : Nat → Nat → Int32) (es : List En9) (r : Nat) (e9 : En9) (hre : es[r]? = some e9) (hG : GaR F es) (hO : okE es) : MC l D9 cB cI cJ cG a O y_Ga_lengthUnderRoot b_Ga_lengthUnderRoot 2 (some .int) 0 [.ref (a 19), .int (nI r)] I F (fun v I' F' => v = some (.int (nI (11 + (eD e9).length))) ∧ I = I' ∧ F = F') := by
  refine mc_of (by decide) (Nat.le_of_ble_eq_true rfl) ?_
  intro p e s m below meth c ls A0 Q C0 hP hD hA hS hl hret
  obtain ⟨hx, hb, hml, hr, hlocks, hown, hts, hK⟩ := id C0
  have hl : lv_has ls 2 [(0, .ref (a 19)), (1, .int (nI r))] := hl
  have hln := okE_len hO
  have hrl := (List.getElem?_eq_some_iff.mp hre).1
  obtain ⟨z1, z2, z3, z4, z5, z6, z7⟩ := hG.1 r e9 hre
  obtain ⟨y1, y2, y3⟩ := hO.2.2.2 e9 (List.mem_of_getElem? hre)
  refine lv_bipush (v := 11) hx hb d_Ga_lengthUnderRoot_0 (by decide) ?_
  refine lv_topq (y := nI 11) (rfl) ?_
  refine lv_aload_n hx hb d_Ga_lengthUnderRoot_2 rfl (lv_at hl 0 rfl) ?_
  refine va_get (D := D9) (ci := 2) (C := R_Ga) (T := F_Ga) (N := 11) hx hb hts i_Ga hown hK hP 19 ww_19 rfl 3 (by decide) (hts _ g_67) (fun _ h9 => h9) rfl d_Ga_lengthUnderRoot_3 ?_
  refine lv_iload_n hx hb d_Ga_lengthUnderRoot_6 rfl (lv_at hl 1 rfl) ?_
  refine va_iald (D := D9) hx hb hK hP 7 1 ww_7 rfl (vp_in_nI (by omega) (by decide)) d_Ga_lengthUnderRoot_7 ?_
  refine lv_topq (y := nI ((eD e9).length)) (by rw [nI_clamp (by omega)]; exact z3) ?_
  refine lv_iadd hx hb d_Ga_lengthUnderRoot_8 ?_
  refine lv_topq (y := nI (11 + ((eD e9).length))) (nI_add _ _) ?_
  exact hret _ _ _ _ _ _ _ hS hP hD d_Ga_lengthUnderRoot_9 nr_i (⟨rfl, rfl, rfl⟩)
set_option maxHeartbeats 4000000 in
set_option maxRecDepth 100000 in
/-- Gathered.bytesNeverLeftOut -/
theorem m_Ga_bytesNeverLeftOut (l : Launch) (D9 : va_G) (cB cI cJ cG : ClassId) (a : Nat → Nat) (O : Nat → Int64) (I : Nat → Int32) (F : Nat → Nat → Int32) (es : List En9) (hG : GaR F es) (hO : okE es) : MC l D9 cB cI cJ cG a O y_Ga_bytesNeverLeftOut b_Ga_bytesNeverLeftOut 4 (some .int) 1 [.ref (a 19)] I F (fun v I' F' => v = some (.int (nI (mu3 (fil 3 es)))) ∧ I = I' ∧ F = F') := by
  refine mc_of (by decide) (Nat.le_of_ble_eq_true rfl) ?_
  intro p e s m below meth c ls A0 Q C0 hP hD hA hS hl hret
  obtain ⟨hx, hb, hml, hr, hlocks, hown, hts, hK⟩ := id C0
  have hl : lv_has ls 4 [(0, .ref (a 19))] := hl
  have k0 := hO.1; have k1 := hO.2.1; have k2 := hO.2.2.1
  refine lv_iconst (v := 0) hx hb d_Ga_bytesNeverLeftOut_0 (by decide) ?_
  refine lv_topq (y := nI 0) (rfl) ?_
  refine lv_istore_n (lv' := [(1, _), (0, _)]) hx hb d_Ga_bytesNeverLeftOut_1 rfl hl (by decide) rfl (fun ls hl => ?_)
  refine lv_iconst (v := 0) hx hb d_Ga_bytesNeverLeftOut_2 (by decide) ?_
  refine lv_topq (y := nI 0) (rfl) ?_
  refine lv_istore_n (lv' := [(2, _), (1, _), (0, _)]) hx hb d_Ga_bytesNeverLeftOut_3 rfl hl (by decide) rfl (fun ls hl => ?_)
  have loop1 : ∀ (n9 : Nat) (k : Nat) (I9 : Nat → Int32) (F9 : Nat → Nat → Int32) (H : Heap) (locs : List Loc) (ls : Array Slot), (I = I9) → (F = F9) → (cn 3 es - k = n9) → (k ≤ cn 3 es) → va_P D9 cls9 (WW a cB cI cJ cG I9 F9 O) H → va_D A0 (WW a cB cI cJ cG I9 F9 O) → va_S A0 s.heap H locs → lv_has ls 4 [(0, .ref (a 19)), (1, .int (nI (mu3 ((fil 3 es).take k)))), (2, .int (nI k))] → W p l e (rm9 1 0 0) s m ([.ref (a 19)] : List Value).toArray below meth c H locs 0 0 Q (F0 m 4 ls []) := by
    intro n9
    induction n9 using Nat.strongRecOn with
    | ind n9 ih =>
      intro k I9 F9 H locs ls hsI hsF hn9 hk hP hD hS hl
      subst hsI
      subst hsF
      refine lv_iload_n hx hb d_Ga_bytesNeverLeftOut_4 rfl (lv_at hl 2 rfl) ?_
      refine lv_aload_n hx hb d_Ga_bytesNeverLeftOut_5 rfl (lv_at hl 0 rfl) ?_
      refine va_get (D := D9) (ci := 2) (C := R_Ga) (T := F_Ga) (N := 11) hx hb hts i_Ga hown hK hP 19 ww_19 rfl 8 (by decide) (hts _ g_81) (fun _ h9 => h9) rfl d_Ga_bytesNeverLeftOut_6 ?_
      refine lv_iconst (v := 3) hx hb d_Ga_bytesNeverLeftOut_9 (by decide) ?_
      refine lv_topq (y := nI 3) (rfl) ?_
      refine va_iald (D := D9) hx hb hK hP 16 1 ww_16 rfl (vp_in_nI (by omega) (by decide)) d_Ga_bytesNeverLeftOut_10 ?_
      refine lv_topq (y := nI (cn 3 es)) (by rw [nI_clamp (by omega)]; exact (hG.2.1 3 (by omega))) ?_
      refine lv_icmp_ge (tgt := 46) hx hb d_Ga_bytesNeverLeftOut_11 (by decide) (fun c1 => ?_) (fun c1 => ?_)
      · have c1 : cn 3 es ≤ k := (nI_leI (a := cn 3 es) (b := k) (by omega) (by omega)).mp c1
        refine lv_iload_n hx hb d_Ga_bytesNeverLeftOut_46 rfl (lv_at hl 1 rfl) ?_
        exact hret _ _ _ _ _ _ _ hS hP hD d_Ga_bytesNeverLeftOut_47 nr_i (⟨by rw [List.take_of_length_le (by rw [fil_len]; omega)], rfl, rfl⟩)
      · have c1 : ¬ (cn 3 es ≤ k) := fun z9 => c1 ((nI_leI (a := cn 3 es) (b := k) (by omega) (by omega)).mpr z9)
        obtain ⟨r9, e9, g1, g2, g3, g4, g5, g6⟩ := GaR_row hG (show k < cn 3 es by omega)
        have hmx := mu3_next g4
        refine lv_aload_n hx hb d_Ga_bytesNeverLeftOut_14 rfl (lv_at hl 0 rfl) ?_
        refine va_get (D := D9) (ci := 2) (C := R_Ga) (T := F_Ga) (N := 11) hx hb hts i_Ga hown hK hP 19 ww_19 rfl 7 (by decide) (hts _ g_79) (fun _ h9 => h9) rfl d_Ga_bytesNeverLeftOut_15 ?_
        refine lv_iconst (v := 3) hx hb d_Ga_bytesNeverLeftOut_18 (by decide) ?_
        refine lv_topq (y := nI 3) (rfl) ?_
        refine va_aldG (D := D9) hx hb hK hP 11 3 ww_11 rfl (vp_in_nI (by omega) (by decide)) d_Ga_bytesNeverLeftOut_19 ?_
        rw [nI_clamp (by omega), va_rf4 (show 3 < 4 by decide)]
        refine lv_iload_n hx hb d_Ga_bytesNeverLeftOut_20 rfl (lv_at hl 2 rfl) ?_
        refine va_iald (D := D9) hx hb hK hP (12 + 3) 1 (ww_row (show 3 < 4 by decide)) rfl (vp_in_nI (by omega) (by decide)) d_Ga_bytesNeverLeftOut_21 ?_
        refine lv_topq (y := nI r9) (by rw [nI_clamp (by omega)]; exact g5) ?_
        refine lv_istore_n (lv' := [(3, _), (0, _), (1, _), (2, _)]) hx hb d_Ga_bytesNeverLeftOut_22 rfl hl (by decide) rfl (fun ls hl => ?_)
        refine lv_aload_n hx hb d_Ga_bytesNeverLeftOut_23 rfl (lv_at hl 1 rfl) ?_
        refine lv_iconst (v := 3) hx hb d_Ga_bytesNeverLeftOut_24 (by decide) ?_
        refine lv_topq (y := nI 3) (rfl) ?_
        refine lv_iload_n hx hb d_Ga_bytesNeverLeftOut_25 rfl (lv_at hl 0 rfl) ?_
        refine mw_cV (ci := 2) (k := 19) C0 (m_Ga_isNeverLeftOut l D9 cB cI cJ cG a O _ _ es r9 e9 g2 hG hO 3 (by decide)) g_539 g_3 g_536 g_538 gs_Ga_isNeverLeftOut ⟨by decide +kernel, by decide +kernel, show Option.map (fun d => d.parameters.length) (parseMethodDescriptor y_Ga_isNeverLeftOut.desc) = some 2 by decide +kernel⟩ ⟨by decide, by decide⟩ rfl rfl hP hD hS hA rfl ww_19 hl.1 (Nat.le_of_ble_eq_true rfl) rfl d_Ga_bytesNeverLeftOut_26 ⟨by decide, by decide⟩ (fun v9 w9 H locs hq hP hD hS => ?_)
        obtain ⟨I2, F3, hw9, q4⟩ := hq
        subst hw9
        obtain ⟨rfl, rfl, rfl⟩ := q4
        refine lv_if_eq (tgt := 40) hx hb d_Ga_bytesNeverLeftOut_29 (by decide) (fun c5 => ?_) (fun c5 => ?_)
        · have c5 : (decide (3 = 3) && decide (eT e9 = 41)) = false := bI_f c5
          simp at c5
          rw [if_neg c5] at hmx
          have hmy : mu3 ((fil 3 es).take k) = mu3 ((fil 3 es).take (k + 1)) := by omega
          rw [hmy] at hl
          refine lv_iinc (lv' := [(2, .int (nI (k + 1))), (3, _), (0, _), (1, _)]) hx hb d_Ga_bytesNeverLeftOut_40 hl (k := 3) rfl (nI_add _ 1) (by decide) rfl (fun ls hl => ?_)
          refine lv_goto (tgt := 4) hx hb d_Ga_bytesNeverLeftOut_43 (by decide) ?_
          exact ih _ (by omega) (k + 1) _ _ _ _ _ rfl rfl rfl (by omega) hP hD hS (lv_pk hl [2, 3, 0] rfl)
        · have c5 : (decide (3 = 3) && decide (eT e9 = 41)) = true := bI_t c5
          simp at c5
          rw [if_pos c5] at hmx
          refine lv_iload_n hx hb d_Ga_bytesNeverLeftOut_32 rfl (lv_at hl 2 rfl) ?_
          refine lv_aload_n hx hb d_Ga_bytesNeverLeftOut_33 rfl (lv_at hl 1 rfl) ?_
          refine lv_iload_n hx hb d_Ga_bytesNeverLeftOut_34 rfl (lv_at hl 0 rfl) ?_
          refine mw_cV (ci := 2) (k := 19) C0 (m_Ga_lengthUnderRoot l D9 cB cI cJ cG a O _ _ es r9 e9 g2 hG hO) g_543 g_3 g_540 g_542 gs_Ga_lengthUnderRoot ⟨by decide +kernel, by decide +kernel, show Option.map (fun d => d.parameters.length) (parseMethodDescriptor y_Ga_lengthUnderRoot.desc) = some 1 by decide +kernel⟩ ⟨by decide, by decide⟩ rfl rfl hP hD hS hA rfl ww_19 hl.1 (Nat.le_of_ble_eq_true rfl) rfl d_Ga_bytesNeverLeftOut_35 ⟨by decide, by decide⟩ (fun v9 w9 H locs hq hP hD hS => ?_)
          obtain ⟨I6, F7, hw9, q8⟩ := hq
          subst hw9
          obtain ⟨rfl, rfl, rfl⟩ := q8
          refine lv_iadd hx hb d_Ga_bytesNeverLeftOut_38 ?_
          refine lv_topq (y := nI (mu3 ((fil 3 es).take k) + (11 + (eD e9).length))) (nI_add _ _) ?_
          refine lv_istore_n (lv' := [(1, _), (3, _), (0, _), (2, _)]) hx hb d_Ga_bytesNeverLeftOut_39 rfl hl (by decide) rfl (fun ls hl => ?_)
          have hmy : mu3 ((fil 3 es).take k) + (11 + (eD e9).length) = mu3 ((fil 3 es).take (k + 1)) := by omega
          rw [hmy] at hl
          refine lv_iinc (lv' := [(2, .int (nI (k + 1))), (1, _), (3, _), (0, _)]) hx hb d_Ga_bytesNeverLeftOut_40 hl (k := 3) rfl (nI_add _ 1) (by decide) rfl (fun ls hl => ?_)
          refine lv_goto (tgt := 4) hx hb d_Ga_bytesNeverLeftOut_43 (by decide) ?_
          exact ih _ (by omega) (k + 1) _ _ _ _ _ rfl rfl rfl (by omega) hP hD hS (lv_pk hl [3, 1, 0] rfl)
  exact loop1 _ 0 _ _ _ _ _ rfl rfl rfl (Nat.zero_le _) hP hD hS (lv_pk hl [2, 1, 0] rfl)
end
section
/-! COPIES -/
theorem mn_nI {a b : Nat} (ha : a < 2 ^ 31) (hb : b < 2 ^ 31) : (if nI b < nI a then nI b else nI a) = nI (min a b) := by
  by_cases h : b < a
  · rw [if_pos ((nI_ltI hb ha).mpr h), Nat.min_eq_right (Nat.le_of_lt h)]
  · rw [if_neg (fun z => h ((nI_ltI hb ha).mp z)), Nat.min_eq_left (by omega)]
theorem BR_cpy {c k fr q : Nat} {f g : Nat → Int32} {L t : List Nat} (hg : BR c 65536 g L) (hf : BR 0 65536 f t) (h1 : fr + k ≤ t.length) (h2 : t.length ≤ 65536) (hq : q = min k (65536 - L.length)) : BR c 65536 (va_cpy f g fr L.length q) (L ++ sl9 t fr k) := by
  refine ⟨sb_fitC hf.1 hg.1, ?_⟩
  intro i b hb hc hn
  by_cases hi : i < L.length
  · rw [pk_cpy_out (Or.inl hi)]
    rw [List.getElem?_append_left hi] at hb
    exact hg.2 i b hb hc hn
  · have h3 := (List.getElem?_eq_some_iff.mp hb).1
    rw [List.length_append, sl9_len h1] at h3
    rw [pk_cpy_in (by omega) (by omega)]
    rw [List.getElem?_append_right (by omega), sl9_get (by omega)] at hb
    exact hf.2 _ b hb (Nat.zero_le _) (by omega)
theorem BR_more {c : Nat} {g : Nat → Int32} {L X : List Nat} (hg : BR c 65536 g L) (h : 65536 ≤ L.length ∨ X = []) : BR c 65536 g (L ++ X) := by
  rcases h with h | h
  · refine ⟨hg.1, ?_⟩
    intro i b hb hc hn
    rw [List.getElem?_append_left (by omega)] at hb
    exact hg.2 i b hb hc hn
  · rw [h, List.append_nil]; exact hg
theorem sl9_0 (t : List Nat) (p : Nat) : sl9 t p 0 = [] := by unfold sl9; exact List.take_zero
theorem g_14 : (Cond.initialized "java/lang/Math") ∈ GT := gt_mem 14 (by decide +kernel) rfl
theorem g_15 : (Cond.initialized "java/lang/System") ∈ GT := gt_mem 15 (by decide +kernel) rfl
theorem g_301 : (Cond.methodLink "WireMessages$Bytes" (38 : Nat) ({ cls := "java/lang/Math", name := "min", desc := "(II)I" } : MethodName)) ∈ GT := gt_mem 301 (by decide +kernel) rfl
theorem g_302 : (Cond.static ({ cls := "java/lang/Math", name := "min", desc := "(II)I" } : MethodName)) ∈ GT := gt_mem 302 (by decide +kernel) rfl
theorem g_303 : (Cond.code ({ cls := "java/lang/Math", name := "min", desc := "(II)I" } : MethodName) prog_15_method_69_code (2 : Nat) (Option.some FieldType.int)) ∈ GT := gt_mem 303 (by decide +kernel) rfl
theorem g_304 : (Cond.methodLink "WireMessages$Bytes" (44 : Nat) ({ cls := "java/lang/System", name := "arraycopy", desc := "(Ljava/lang/Object;ILjava/lang/Object;II)V" } : MethodName)) ∈ GT := gt_mem 304 (by decide +kernel) rfl
theorem g_305 : (Cond.static ({ cls := "java/lang/System", name := "arraycopy", desc := "(Ljava/lang/Object;ILjava/lang/Object;II)V" } : MethodName)) ∈ GT := gt_mem 305 (by decide +kernel) rfl
theorem g_306 : (Cond.native ({ cls := "java/lang/System", name := "arraycopy", desc := "(Ljava/lang/Object;ILjava/lang/Object;II)V" } : MethodName)) ∈ GT := gt_mem 306 (by decide +kernel) rfl
theorem d_By_putFrom_0 : decode b_By_putFrom 0 = .ok (.iload_n 3, 1) := by decide +kernel
theorem d_By_putFrom_1 : decode b_By_putFrom 1 = .ok (.aload_n 0, 1) := by decide +kernel
theorem d_By_putFrom_2 : decode b_By_putFrom 2 = .ok (.getfield 10, 3) := by decide +kernel
theorem d_By_putFrom_5 : decode b_By_putFrom 5 = .ok (.arraylength, 1) := by decide +kernel
theorem d_By_putFrom_6 : decode b_By_putFrom 6 = .ok (.aload_n 0, 1) := by decide +kernel
theorem d_By_putFrom_7 : decode b_By_putFrom 7 = .ok (.getfield 27, 3) := by decide +kernel
theorem d_By_putFrom_10 : decode b_By_putFrom 10 = .ok (.isub, 1) := by decide +kernel
theorem d_By_putFrom_11 : decode b_By_putFrom 11 = .ok (.invokestatic 38, 3) := by decide +kernel
theorem d_By_putFrom_14 : decode b_By_putFrom 14 = .ok (.aload_n 1, 1) := by decide +kernel
theorem d_By_putFrom_15 : decode b_By_putFrom 15 = .ok (.getfield 10, 3) := by decide +kernel
theorem d_By_putFrom_18 : decode b_By_putFrom 18 = .ok (.arraylength, 1) := by decide +kernel
theorem d_By_putFrom_19 : decode b_By_putFrom 19 = .ok (.iload_n 2, 1) := by decide +kernel
theorem d_By_putFrom_20 : decode b_By_putFrom 20 = .ok (.isub, 1) := by decide +kernel
theorem d_By_putFrom_21 : decode b_By_putFrom 21 = .ok (.invokestatic 38, 3) := by decide +kernel
theorem d_By_putFrom_24 : decode b_By_putFrom 24 = .ok (.istore 4, 2) := by decide +kernel
theorem d_By_putFrom_26 : decode b_By_putFrom 26 = .ok (.iload_n 2, 1) := by decide +kernel
theorem d_By_putFrom_27 : decode b_By_putFrom 27 = .ok (.ifCond .lt 26, 3) := by decide +kernel
theorem d_By_putFrom_30 : decode b_By_putFrom 30 = .ok (.iload 4, 2) := by decide +kernel
theorem d_By_putFrom_32 : decode b_By_putFrom 32 = .ok (.ifCond .le 21, 3) := by decide +kernel
theorem d_By_putFrom_35 : decode b_By_putFrom 35 = .ok (.aload_n 1, 1) := by decide +kernel
theorem d_By_putFrom_36 : decode b_By_putFrom 36 = .ok (.getfield 10, 3) := by decide +kernel
theorem d_By_putFrom_39 : decode b_By_putFrom 39 = .ok (.iload_n 2, 1) := by decide +kernel
theorem d_By_putFrom_40 : decode b_By_putFrom 40 = .ok (.aload_n 0, 1) := by decide +kernel
theorem d_By_putFrom_41 : decode b_By_putFrom 41 = .ok (.getfield 10, 3) := by decide +kernel
theorem d_By_putFrom_44 : decode b_By_putFrom 44 = .ok (.aload_n 0, 1) := by decide +kernel
theorem d_By_putFrom_45 : decode b_By_putFrom 45 = .ok (.getfield 27, 3) := by decide +kernel
theorem d_By_putFrom_48 : decode b_By_putFrom 48 = .ok (.iload 4, 2) := by decide +kernel
theorem d_By_putFrom_50 : decode b_By_putFrom 50 = .ok (.invokestatic 44, 3) := by decide +kernel
theorem d_By_putFrom_53 : decode b_By_putFrom 53 = .ok (.aload_n 0, 1) := by decide +kernel
theorem d_By_putFrom_54 : decode b_By_putFrom 54 = .ok (.dup, 1) := by decide +kernel
theorem d_By_putFrom_55 : decode b_By_putFrom 55 = .ok (.getfield 27, 3) := by decide +kernel
theorem d_By_putFrom_58 : decode b_By_putFrom 58 = .ok (.iload_n 3, 1) := by decide +kernel
theorem d_By_putFrom_59 : decode b_By_putFrom 59 = .ok (.iadd, 1) := by decide +kernel
theorem d_By_putFrom_60 : decode b_By_putFrom 60 = .ok (.putfield 27, 3) := by decide +kernel
theorem d_By_putFrom_63 : decode b_By_putFrom 63 = .ok (.return_, 1) := by decide +kernel
set_option maxHeartbeats 4000000 in
set_option maxRecDepth 100000 in
/-- Bytes.putFrom -/
theorem m_By_putFrom_gb_tp (l : Launch) (D9 : va_G) (cB cI cJ cG : ClassId) (a : Nat → Nat) (O : Nat → Int64) (I : Nat → Int32) (F : Nat → Nat → Int32) (L t : List Nat) (c9 fr k : Nat) (hBL : BR c9 65536 (F 4) L) (hBt : BR 0 65536 (F 2) t) (hLl : I 3 = nI L.length) (htl : t.length ≤ 65536) (hft : fr + k ≤ t.length) (hLb : L.length < 1000000) : MC l D9 cB cI cJ cG a O y_By_putFrom b_By_putFrom 5 (none) 1 [.ref (a 3), .ref (a 1), .int (nI fr), .int (nI k)] I F (fun v I' F' => v = none ∧ sm [3] I I' ∧ I' 3 = nI (L.length + k) ∧ sm [4] F F' ∧ BR c9 65536 (F' 4) (L ++ sl9 t fr k)) := by
  refine mc_ofv (by decide) (Nat.le_of_ble_eq_true rfl) ?_
  intro p e s m below meth c ls A0 Q C0 hP hD hA hS hl hret
  obtain ⟨hx, hb, hml, hr, hlocks, hown, hts, hK⟩ := id C0
  have hl : lv_has ls 5 [(0, .ref (a 3)), (1, .ref (a 1)), (2, .int (nI fr)), (3, .int (nI k))] := hl
  by_cases hA : L.length ≤ 65536
  · refine lv_iload_n hx hb d_By_putFrom_0 rfl (lv_at hl 3 rfl) ?_
    refine lv_aload_n hx hb d_By_putFrom_1 rfl (lv_at hl 0 rfl) ?_
    refine va_get (D := D9) (ci := 0) (C := R_By) (T := F_By) (N := 2) hx hb hts i_By hown hK hP 3 ww_3 rfl 0 (by decide) (hts _ g_35) (fun _ h9 => h9) rfl d_By_putFrom_2 ?_
    refine va_alen (D := D9) hx hb hK hP 4 0 ww_4 rfl rfl d_By_putFrom_5 ?_
    refine lv_topq (y := nI 65536) (rfl) ?_
    refine lv_aload_n hx hb d_By_putFrom_6 rfl (lv_at hl 0 rfl) ?_
    refine va_get (D := D9) (ci := 0) (C := R_By) (T := F_By) (N := 2) hx hb hts i_By hown hK hP 3 ww_3 rfl 1 (by decide) (hts _ g_40) (fun _ h9 => h9) rfl d_By_putFrom_7 ?_
    refine lv_topq (y := nI L.length) (hLl) ?_
    refine lv_isub hx hb d_By_putFrom_10 ?_
    refine lv_topq (y := nI (65536 - L.length)) (pk_sub (by omega)) ?_
    refine va_mmin hx hb (by rw [hml]; exact hl.1.symm) hown (hts _ g_301) (hts _ g_302) (hts _ g_14) (hts _ g_303) (by decide) (by decide) (by decide) (by decide) d_By_putFrom_11 ?_
    refine lv_topq (y := nI (min k (65536 - L.length))) (mn_nI (by omega) (by omega)) ?_
    refine lv_aload_n hx hb d_By_putFrom_14 rfl (lv_at hl 1 rfl) ?_
    refine va_get (D := D9) (ci := 0) (C := R_By) (T := F_By) (N := 2) hx hb hts i_By hown hK hP 1 ww_1 rfl 0 (by decide) (hts _ g_35) (fun _ h9 => h9) rfl d_By_putFrom_15 ?_
    refine va_alen (D := D9) hx hb hK hP 2 0 ww_2 rfl rfl d_By_putFrom_18 ?_
    refine lv_topq (y := nI 65536) (rfl) ?_
    refine lv_iload_n hx hb d_By_putFrom_19 rfl (lv_at hl 2 rfl) ?_
    refine lv_isub hx hb d_By_putFrom_20 ?_
    refine lv_topq (y := nI (65536 - fr)) (pk_sub (by omega)) ?_
    refine va_mmin hx hb (by rw [hml]; exact hl.1.symm) hown (hts _ g_301) (hts _ g_302) (hts _ g_14) (hts _ g_303) (by decide) (by decide) (by decide) (by decide) d_By_putFrom_21 ?_
    refine lv_topq (y := nI (min k (65536 - L.length))) ((mn_nI (by omega) (by omega)).trans (congrArg nI (by omega))) ?_
    refine lv_istore (lv' := [(4, _), (0, _), (1, _), (2, _), (3, _)]) hx hb d_By_putFrom_24 hl (by decide) rfl (fun ls hl => ?_)
    refine lv_iload_n hx hb d_By_putFrom_26 rfl (lv_at hl 3 rfl) ?_
    refine lv_if_lt (tgt := 53) hx hb d_By_putFrom_27 (by decide) (fun c1 => ?_) (fun c1 => ?_)
    · have c1 : fr < 0 := (nI_ltI (a := fr) (b := 0) (by omega) (by omega)).mp c1
      exfalso; omega
    · have c1 : ¬ (fr < 0) := fun z9 => c1 ((nI_ltI (a := fr) (b := 0) (by omega) (by omega)).mpr z9)
      refine lv_iload hx hb d_By_putFrom_30 (lv_at hl 0 rfl) ?_
      refine lv_if_le (tgt := 53) hx hb d_By_putFrom_32 (by decide) (fun c2 => ?_) (fun c2 => ?_)
      · have c2 : min k (65536 - L.length) ≤ 0 := (nI_leI (a := min k (65536 - L.length)) (b := 0) (by omega) (by omega)).mp c2
        refine lv_aload_n hx hb d_By_putFrom_53 rfl (lv_at hl 1 rfl) ?_
        refine lv_dup hx hb d_By_putFrom_54 rfl ?_
        refine va_get (D := D9) (ci := 0) (C := R_By) (T := F_By) (N := 2) hx hb hts i_By hown hK hP 3 ww_3 rfl 1 (by decide) (hts _ g_40) (fun _ h9 => h9) rfl d_By_putFrom_55 ?_
        refine lv_topq (y := nI L.length) (hLl) ?_
        refine lv_iload_n hx hb d_By_putFrom_58 rfl (lv_at hl 4 rfl) ?_
        refine lv_iadd hx hb d_By_putFrom_59 ?_
        refine lv_topq (y := nI (L.length + k)) (nI_add _ _) ?_
        refine va_put (D := D9) (ty := .int) (ci := 0) (C := R_By) (T := F_By) (N := 2) hx hb hts i_By t_By t_By_ok n_By hown hK hP hD hS 3 ww_3 rfl 1 (by decide) (hts _ g_40) (fun _ h9 => h9) rfl (by decide +kernel) rfl rfl (Nat.le_of_ble_eq_true rfl) d_By_putFrom_60 (fun H locs hP hD hS => ?_)
        obtain ⟨I3, aI3, sI3, hP, hD⟩ := fx (P := fun z => va_P D9 cls9 (WW a cB cI cJ cG z _ O) H ∧ va_D A0 (WW a cB cI cJ cG z _ O)) ⟨wp_3 hP, wd_3 hD⟩
        exact hret _ _ _ _ _ _ hS hP hD d_By_putFrom_63 (⟨rfl, (sm_mo sI3 (by decide)), aI3, sm_rf, BR_more hBL (by rcases (show k = 0 ∨ 65536 ≤ L.length by omega) with z | z; exact Or.inr (by rw [z]; exact sl9_0 _ _); exact Or.inl z)⟩)
      · have c2 : ¬ (min k (65536 - L.length) ≤ 0) := fun z9 => c2 ((nI_leI (a := min k (65536 - L.length)) (b := 0) (by omega) (by omega)).mpr z9)
        refine lv_aload_n hx hb d_By_putFrom_35 rfl (lv_at hl 2 rfl) ?_
        refine va_get (D := D9) (ci := 0) (C := R_By) (T := F_By) (N := 2) hx hb hts i_By hown hK hP 1 ww_1 rfl 0 (by decide) (hts _ g_35) (fun _ h9 => h9) rfl d_By_putFrom_36 ?_
        refine lv_iload_n hx hb d_By_putFrom_39 rfl (lv_at hl 3 rfl) ?_
        refine lv_aload_n hx hb d_By_putFrom_40 rfl (lv_at hl 1 rfl) ?_
        refine va_get (D := D9) (ci := 0) (C := R_By) (T := F_By) (N := 2) hx hb hts i_By hown hK hP 3 ww_3 rfl 0 (by decide) (hts _ g_35) (fun _ h9 => h9) rfl d_By_putFrom_41 ?_
        refine lv_aload_n hx hb d_By_putFrom_44 rfl (lv_at hl 1 rfl) ?_
        refine va_get (D := D9) (ci := 0) (C := R_By) (T := F_By) (N := 2) hx hb hts i_By hown hK hP 3 ww_3 rfl 1 (by decide) (hts _ g_40) (fun _ h9 => h9) rfl d_By_putFrom_45 ?_
        refine lv_topq (y := nI L.length) (hLl) ?_
        refine lv_iload hx hb d_By_putFrom_48 (lv_at hl 0 rfl) ?_
        refine va_copyi (D := D9) (ty := .byte) hx hb (by rw [hml]; exact hl.1.symm) hown (hts _ g_304) (hts _ g_306) (hts _ g_305) (hts _ g_15) hK hP hD hS 2 4 0 0 ww_2 ww_4 rfl rfl rfl (nI_pos (by omega)) (nI_pos (by omega)) (nI_pos (by omega)) (by rw [nI_clamp (by omega), nI_clamp (by omega)]; omega) (by rw [nI_clamp (by omega), nI_clamp (by omega)]; omega) (fun i _ => hBt.1 _) (by decide) (by decide) d_By_putFrom_50 (fun H locs hP hD hS => ?_)
        obtain ⟨F4, aF4, sF4, hP, hD⟩ := fx (P := fun z => va_P D9 cls9 (WW a cB cI cJ cG _ z O) H ∧ va_D A0 (WW a cB cI cJ cG _ z O)) ⟨wpa_4 hP, wda_4 hD⟩
        rw [nI_clamp (by omega), nI_clamp (by omega), nI_clamp (by omega)] at aF4
        refine lv_aload_n hx hb d_By_putFrom_53 rfl (lv_at hl 1 rfl) ?_
        refine lv_dup hx hb d_By_putFrom_54 rfl ?_
        refine va_get (D := D9) (ci := 0) (C := R_By) (T := F_By) (N := 2) hx hb hts i_By hown hK hP 3 ww_3 rfl 1 (by decide) (hts _ g_40) (fun _ h9 => h9) rfl d_By_putFrom_55 ?_
        refine lv_topq (y := nI L.length) (hLl) ?_
        refine lv_iload_n hx hb d_By_putFrom_58 rfl (lv_at hl 4 rfl) ?_
        refine lv_iadd hx hb d_By_putFrom_59 ?_
        refine lv_topq (y := nI (L.length + k)) (nI_add _ _) ?_
        refine va_put (D := D9) (ty := .int) (ci := 0) (C := R_By) (T := F_By) (N := 2) hx hb hts i_By t_By t_By_ok n_By hown hK hP hD hS 3 ww_3 rfl 1 (by decide) (hts _ g_40) (fun _ h9 => h9) rfl (by decide +kernel) rfl rfl (Nat.le_of_ble_eq_true rfl) d_By_putFrom_60 (fun H locs hP hD hS => ?_)
        obtain ⟨I5, aI5, sI5, hP, hD⟩ := fx (P := fun z => va_P D9 cls9 (WW a cB cI cJ cG z _ O) H ∧ va_D A0 (WW a cB cI cJ cG z _ O)) ⟨wp_3 hP, wd_3 hD⟩
        exact hret _ _ _ _ _ _ hS hP hD d_By_putFrom_63 (⟨rfl, (sm_mo sI5 (by decide)), aI5, (sm_mo sF4 (by decide)), BR_eq (BR_cpy hBL hBt hft htl rfl) aF4⟩)
  · refine lv_iload_n hx hb d_By_putFrom_0 rfl (lv_at hl 3 rfl) ?_
    refine lv_aload_n hx hb d_By_putFrom_1 rfl (lv_at hl 0 rfl) ?_
    refine va_get (D := D9) (ci := 0) (C := R_By) (T := F_By) (N := 2) hx hb hts i_By hown hK hP 3 ww_3 rfl 0 (by decide) (hts _ g_35) (fun _ h9 => h9) rfl d_By_putFrom_2 ?_
    refine va_alen (D := D9) hx hb hK hP 4 0 ww_4 rfl rfl d_By_putFrom_5 ?_
    refine lv_topq (y := nI 65536) (rfl) ?_
    refine lv_aload_n hx hb d_By_putFrom_6 rfl (lv_at hl 0 rfl) ?_
    refine va_get (D := D9) (ci := 0) (C := R_By) (T := F_By) (N := 2) hx hb hts i_By hown hK hP 3 ww_3 rfl 1 (by decide) (hts _ g_40) (fun _ h9 => h9) rfl d_By_putFrom_7 ?_
    refine lv_topq (y := nI L.length) (hLl) ?_
    refine lv_isub hx hb d_By_putFrom_10 ?_
    refine lv_topq (y := nI 65536 - nI L.length) (rfl) ?_
    refine va_mmin hx hb (by rw [hml]; exact hl.1.symm) hown (hts _ g_301) (hts _ g_302) (hts _ g_14) (hts _ g_303) (by decide) (by decide) (by decide) (by decide) d_By_putFrom_11 ?_
    refine lv_topq (y := nI 65536 - nI L.length) (if_pos (Int32.lt_of_lt_of_le (pk_sneg (a := 65536) (b := L.length) (by omega) (by omega)) (nI_pos' (by omega)))) ?_
    refine lv_aload_n hx hb d_By_putFrom_14 rfl (lv_at hl 1 rfl) ?_
    refine va_get (D := D9) (ci := 0) (C := R_By) (T := F_By) (N := 2) hx hb hts i_By hown hK hP 1 ww_1 rfl 0 (by decide) (hts _ g_35) (fun _ h9 => h9) rfl d_By_putFrom_15 ?_
    refine va_alen (D := D9) hx hb hK hP 2 0 ww_2 rfl rfl d_By_putFrom_18 ?_
    refine lv_topq (y := nI 65536) (rfl) ?_
    refine lv_iload_n hx hb d_By_putFrom_19 rfl (lv_at hl 2 rfl) ?_
    refine lv_isub hx hb d_By_putFrom_20 ?_
    refine lv_topq (y := nI (65536 - fr)) (pk_sub (by omega)) ?_
    refine va_mmin hx hb (by rw [hml]; exact hl.1.symm) hown (hts _ g_301) (hts _ g_302) (hts _ g_14) (hts _ g_303) (by decide) (by decide) (by decide) (by decide) d_By_putFrom_21 ?_
    refine lv_topq (y := nI 65536 - nI L.length) (if_neg (fun z9 => nI_pos (show 65536 - fr < 2 ^ 31 by omega) (Int32.lt_trans z9 (pk_sneg (a := 65536) (b := L.length) (by omega) (by omega))))) ?_
    refine lv_istore (lv' := [(4, _), (0, _), (1, _), (2, _), (3, _)]) hx hb d_By_putFrom_24 hl (by decide) rfl (fun ls hl => ?_)
    refine lv_iload_n hx hb d_By_putFrom_26 rfl (lv_at hl 3 rfl) ?_
    refine lv_if_lt (tgt := 53) hx hb d_By_putFrom_27 (by decide) (fun c6 => ?_) (fun c6 => ?_)
    · have c6 : fr < 0 := (nI_ltI (a := fr) (b := 0) (by omega) (by omega)).mp c6
      exfalso; omega
    · have c6 : ¬ (fr < 0) := fun z9 => c6 ((nI_ltI (a := fr) (b := 0) (by omega) (by omega)).mpr z9)
      refine lv_iload hx hb d_By_putFrom_30 (lv_at hl 0 rfl) ?_
      refine lv_if_le (tgt := 53) hx hb d_By_putFrom_32 (by decide) (fun c7 => ?_) (fun c7 => ?_)
      · refine lv_aload_n hx hb d_By_putFrom_53 rfl (lv_at hl 1 rfl) ?_
        refine lv_dup hx hb d_By_putFrom_54 rfl ?_
        refine va_get (D := D9) (ci := 0) (C := R_By) (T := F_By) (N := 2) hx hb hts i_By hown hK hP 3 ww_3 rfl 1 (by decide) (hts _ g_40) (fun _ h9 => h9) rfl d_By_putFrom_55 ?_
        refine lv_topq (y := nI L.length) (hLl) ?_
        refine lv_iload_n hx hb d_By_putFrom_58 rfl (lv_at hl 4 rfl) ?_
        refine lv_iadd hx hb d_By_putFrom_59 ?_
        refine lv_topq (y := nI (L.length + k)) (nI_add _ _) ?_
        refine va_put (D := D9) (ty := .int) (ci := 0) (C := R_By) (T := F_By) (N := 2) hx hb hts i_By t_By t_By_ok n_By hown hK hP hD hS 3 ww_3 rfl 1 (by decide) (hts _ g_40) (fun _ h9 => h9) rfl (by decide +kernel) rfl rfl (Nat.le_of_ble_eq_true rfl) d_By_putFrom_60 (fun H locs hP hD hS => ?_)
        obtain ⟨I8, aI8, sI8, hP, hD⟩ := fx (P := fun z => va_P D9 cls9 (WW a cB cI cJ cG z _ O) H ∧ va_D A0 (WW a cB cI cJ cG z _ O)) ⟨wp_3 hP, wd_3 hD⟩
        exact hret _ _ _ _ _ _ hS hP hD d_By_putFrom_63 (⟨rfl, (sm_mo sI8 (by decide)), aI8, sm_rf, BR_more (BR_eq hBL rfl) (Or.inl (by omega))⟩)
      · exact absurd (Int32.le_of_lt (pk_sneg (a := 65536) (b := L.length) (by omega) (by omega))) c7
set_option maxHeartbeats 4000000 in
set_option maxRecDepth 100000 in
/-- Bytes.putFrom -/
theorem m_By_putFrom_ms_gb (l : Launch) (D9 : va_G) (cB cI cJ cG : ClassId) (a : Nat → Nat) (O : Nat → Int64) (I : Nat → Int32) (F : Nat → Nat → Int32) (L t : List Nat) (c9 fr k : Nat) (hBL : BR c9 65536 (F 21) L) (hBt : BR 0 65536 (F 4) t) (hLl : I 13 = nI L.length) (htl : t.length ≤ 65536) (hft : fr + k ≤ t.length) (hLb : L.length < 1000000) : MC l D9 cB cI cJ cG a O y_By_putFrom b_By_putFrom 5 (none) 1 [.ref (a 20), .ref (a 3), .int (nI fr), .int (nI k)] I F (fun v I' F' => v = none ∧ sm [13] I I' ∧ I' 13 = nI (L.length + k) ∧ sm [21] F F' ∧ BR c9 65536 (F' 21) (L ++ sl9 t fr k)) := by
  refine mc_ofv (by decide) (Nat.le_of_ble_eq_true rfl) ?_
  intro p e s m below meth c ls A0 Q C0 hP hD hA hS hl hret
  obtain ⟨hx, hb, hml, hr, hlocks, hown, hts, hK⟩ := id C0
  have hl : lv_has ls 5 [(0, .ref (a 20)), (1, .ref (a 3)), (2, .int (nI fr)), (3, .int (nI k))] := hl
  by_cases hA : L.length ≤ 65536
  · refine lv_iload_n hx hb d_By_putFrom_0 rfl (lv_at hl 3 rfl) ?_
    refine lv_aload_n hx hb d_By_putFrom_1 rfl (lv_at hl 0 rfl) ?_
    refine va_get (D := D9) (ci := 0) (C := R_By) (T := F_By) (N := 2) hx hb hts i_By hown hK hP 20 ww_20 rfl 0 (by decide) (hts _ g_35) (fun _ h9 => h9) rfl d_By_putFrom_2 ?_
    refine va_alen (D := D9) hx hb hK hP 21 0 ww_21 rfl rfl d_By_putFrom_5 ?_
    refine lv_topq (y := nI 65536) (rfl) ?_
    refine lv_aload_n hx hb d_By_putFrom_6 rfl (lv_at hl 0 rfl) ?_
    refine va_get (D := D9) (ci := 0) (C := R_By) (T := F_By) (N := 2) hx hb hts i_By hown hK hP 20 ww_20 rfl 1 (by decide) (hts _ g_40) (fun _ h9 => h9) rfl d_By_putFrom_7 ?_
    refine lv_topq (y := nI L.length) (hLl) ?_
    refine lv_isub hx hb d_By_putFrom_10 ?_
    refine lv_topq (y := nI (65536 - L.length)) (pk_sub (by omega)) ?_
    refine va_mmin hx hb (by rw [hml]; exact hl.1.symm) hown (hts _ g_301) (hts _ g_302) (hts _ g_14) (hts _ g_303) (by decide) (by decide) (by decide) (by decide) d_By_putFrom_11 ?_
    refine lv_topq (y := nI (min k (65536 - L.length))) (mn_nI (by omega) (by omega)) ?_
    refine lv_aload_n hx hb d_By_putFrom_14 rfl (lv_at hl 1 rfl) ?_
    refine va_get (D := D9) (ci := 0) (C := R_By) (T := F_By) (N := 2) hx hb hts i_By hown hK hP 3 ww_3 rfl 0 (by decide) (hts _ g_35) (fun _ h9 => h9) rfl d_By_putFrom_15 ?_
    refine va_alen (D := D9) hx hb hK hP 4 0 ww_4 rfl rfl d_By_putFrom_18 ?_
    refine lv_topq (y := nI 65536) (rfl) ?_
    refine lv_iload_n hx hb d_By_putFrom_19 rfl (lv_at hl 2 rfl) ?_
    refine lv_isub hx hb d_By_putFrom_20 ?_
    refine lv_topq (y := nI (65536 - fr)) (pk_sub (by omega)) ?_
    refine va_mmin hx hb (by rw [hml]; exact hl.1.symm) hown (hts _ g_301) (hts _ g_302) (hts _ g_14) (hts _ g_303) (by decide) (by decide) (by decide) (by decide) d_By_putFrom_21 ?_
    refine lv_topq (y := nI (min k (65536 - L.length))) ((mn_nI (by omega) (by omega)).trans (congrArg nI (by omega))) ?_
    refine lv_istore (lv' := [(4, _), (0, _), (1, _), (2, _), (3, _)]) hx hb d_By_putFrom_24 hl (by decide) rfl (fun ls hl => ?_)
    refine lv_iload_n hx hb d_By_putFrom_26 rfl (lv_at hl 3 rfl) ?_
    refine lv_if_lt (tgt := 53) hx hb d_By_putFrom_27 (by decide) (fun c1 => ?_) (fun c1 => ?_)
    · have c1 : fr < 0 := (nI_ltI (a := fr) (b := 0) (by omega) (by omega)).mp c1
      exfalso; omega
    · have c1 : ¬ (fr < 0) := fun z9 => c1 ((nI_ltI (a := fr) (b := 0) (by omega) (by omega)).mpr z9)
      refine lv_iload hx hb d_By_putFrom_30 (lv_at hl 0 rfl) ?_
      refine lv_if_le (tgt := 53) hx hb d_By_putFrom_32 (by decide) (fun c2 => ?_) (fun c2 => ?_)
      · have c2 : min k (65536 - L.length) ≤ 0 := (nI_leI (a := min k (65536 - L.length)) (b := 0) (by omega) (by omega)).mp c2
        refine lv_aload_n hx hb d_By_putFrom_53 rfl (lv_at hl 1 rfl) ?_
        refine lv_dup hx hb d_By_putFrom_54 rfl ?_
        refine va_get (D := D9) (ci := 0) (C := R_By) (T := F_By) (N := 2) hx hb hts i_By hown hK hP 20 ww_20 rfl 1 (by decide) (hts _ g_40) (fun _ h9 => h9) rfl d_By_putFrom_55 ?_
        refine lv_topq (y := nI L.length) (hLl) ?_
        refine lv_iload_n hx hb d_By_putFrom_58 rfl (lv_at hl 4 rfl) ?_
        refine lv_iadd hx hb d_By_putFrom_59 ?_
        refine lv_topq (y := nI (L.length + k)) (nI_add _ _) ?_
        refine va_put (D := D9) (ty := .int) (ci := 0) (C := R_By) (T := F_By) (N := 2) hx hb hts i_By t_By t_By_ok n_By hown hK hP hD hS 20 ww_20 rfl 1 (by decide) (hts _ g_40) (fun _ h9 => h9) rfl (by decide +kernel) rfl rfl (Nat.le_of_ble_eq_true rfl) d_By_putFrom_60 (fun H locs hP hD hS => ?_)
        obtain ⟨I3, aI3, sI3, hP, hD⟩ := fx (P := fun z => va_P D9 cls9 (WW a cB cI cJ cG z _ O) H ∧ va_D A0 (WW a cB cI cJ cG z _ O)) ⟨wp_13 hP, wd_13 hD⟩
        exact hret _ _ _ _ _ _ hS hP hD d_By_putFrom_63 (⟨rfl, (sm_mo sI3 (by decide)), aI3, sm_rf, BR_more hBL (by rcases (show k = 0 ∨ 65536 ≤ L.length by omega) with z | z; exact Or.inr (by rw [z]; exact sl9_0 _ _); exact Or.inl z)⟩)
      · have c2 : ¬ (min k (65536 - L.length) ≤ 0) := fun z9 => c2 ((nI_leI (a := min k (65536 - L.length)) (b := 0) (by omega) (by omega)).mpr z9)
        refine lv_aload_n hx hb d_By_putFrom_35 rfl (lv_at hl 2 rfl) ?_
        refine va_get (D := D9) (ci := 0) (C := R_By) (T := F_By) (N := 2) hx hb hts i_By hown hK hP 3 ww_3 rfl 0 (by decide) (hts _ g_35) (fun _ h9 => h9) rfl d_By_putFrom_36 ?_
        refine lv_iload_n hx hb d_By_putFrom_39 rfl (lv_at hl 3 rfl) ?_
        refine lv_aload_n hx hb d_By_putFrom_40 rfl (lv_at hl 1 rfl) ?_
        refine va_get (D := D9) (ci := 0) (C := R_By) (T := F_By) (N := 2) hx hb hts i_By hown hK hP 20 ww_20 rfl 0 (by decide) (hts _ g_35) (fun _ h9 => h9) rfl d_By_putFrom_41 ?_
        refine lv_aload_n hx hb d_By_putFrom_44 rfl (lv_at hl 1 rfl) ?_
        refine va_get (D := D9) (ci := 0) (C := R_By) (T := F_By) (N := 2) hx hb hts i_By hown hK hP 20 ww_20 rfl 1 (by decide) (hts _ g_40) (fun _ h9 => h9) rfl d_By_putFrom_45 ?_
        refine lv_topq (y := nI L.length) (hLl) ?_
        refine lv_iload hx hb d_By_putFrom_48 (lv_at hl 0 rfl) ?_
        refine va_copyi (D := D9) (ty := .byte) hx hb (by rw [hml]; exact hl.1.symm) hown (hts _ g_304) (hts _ g_306) (hts _ g_305) (hts _ g_15) hK hP hD hS 4 21 0 0 ww_4 ww_21 rfl rfl rfl (nI_pos (by omega)) (nI_pos (by omega)) (nI_pos (by omega)) (by rw [nI_clamp (by omega), nI_clamp (by omega)]; omega) (by rw [nI_clamp (by omega), nI_clamp (by omega)]; omega) (fun i _ => hBt.1 _) (by decide) (by decide) d_By_putFrom_50 (fun H locs hP hD hS => ?_)
        obtain ⟨F4, aF4, sF4, hP, hD⟩ := fx (P := fun z => va_P D9 cls9 (WW a cB cI cJ cG _ z O) H ∧ va_D A0 (WW a cB cI cJ cG _ z O)) ⟨wpa_21 hP, wda_21 hD⟩
        rw [nI_clamp (by omega), nI_clamp (by omega), nI_clamp (by omega)] at aF4
        refine lv_aload_n hx hb d_By_putFrom_53 rfl (lv_at hl 1 rfl) ?_
        refine lv_dup hx hb d_By_putFrom_54 rfl ?_
        refine va_get (D := D9) (ci := 0) (C := R_By) (T := F_By) (N := 2) hx hb hts i_By hown hK hP 20 ww_20 rfl 1 (by decide) (hts _ g_40) (fun _ h9 => h9) rfl d_By_putFrom_55 ?_
        refine lv_topq (y := nI L.length) (hLl) ?_
        refine lv_iload_n hx hb d_By_putFrom_58 rfl (lv_at hl 4 rfl) ?_
        refine lv_iadd hx hb d_By_putFrom_59 ?_
        refine lv_topq (y := nI (L.length + k)) (nI_add _ _) ?_
        refine va_put (D := D9) (ty := .int) (ci := 0) (C := R_By) (T := F_By) (N := 2) hx hb hts i_By t_By t_By_ok n_By hown hK hP hD hS 20 ww_20 rfl 1 (by decide) (hts _ g_40) (fun _ h9 => h9) rfl (by decide +kernel) rfl rfl (Nat.le_of_ble_eq_true rfl) d_By_putFrom_60 (fun H locs hP hD hS => ?_)
        obtain ⟨I5, aI5, sI5, hP, hD⟩ := fx (P := fun z => va_P D9 cls9 (WW a cB cI cJ cG z _ O) H ∧ va_D A0 (WW a cB cI cJ cG z _ O)) ⟨wp_13 hP, wd_13 hD⟩
        exact hret _ _ _ _ _ _ hS hP hD d_By_putFrom_63 (⟨rfl, (sm_mo sI5 (by decide)), aI5, (sm_mo sF4 (by decide)), BR_eq (BR_cpy hBL hBt hft htl rfl) aF4⟩)
  · refine lv_iload_n hx hb d_By_putFrom_0 rfl (lv_at hl 3 rfl) ?_
    refine lv_aload_n hx hb d_By_putFrom_1 rfl (lv_at hl 0 rfl) ?_
    refine va_get (D := D9) (ci := 0) (C := R_By) (T := F_By) (N := 2) hx hb hts i_By hown hK hP 20 ww_20 rfl 0 (by decide) (hts _ g_35) (fun _ h9 => h9) rfl d_By_putFrom_2 ?_
    refine va_alen (D := D9) hx hb hK hP 21 0 ww_21 rfl rfl d_By_putFrom_5 ?_
    refine lv_topq (y := nI 65536) (rfl) ?_
    refine lv_aload_n hx hb d_By_putFrom_6 rfl (lv_at hl 0 rfl) ?_
    refine va_get (D := D9) (ci := 0) (C := R_By) (T := F_By) (N := 2) hx hb hts i_By hown hK hP 20 ww_20 rfl 1 (by decide) (hts _ g_40) (fun _ h9 => h9) rfl d_By_putFrom_7 ?_
    refine lv_topq (y := nI L.length) (hLl) ?_
    refine lv_isub hx hb d_By_putFrom_10 ?_
    refine lv_topq (y := nI 65536 - nI L.length) (rfl) ?_
    refine va_mmin hx hb (by rw [hml]; exact hl.1.symm) hown (hts _ g_301) (hts _ g_302) (hts _ g_14) (hts _ g_303) (by decide) (by decide) (by decide) (by decide) d_By_putFrom_11 ?_
    refine lv_topq (y := nI 65536 - nI L.length) (if_pos (Int32.lt_of_lt_of_le (pk_sneg (a := 65536) (b := L.length) (by omega) (by omega)) (nI_pos' (by omega)))) ?_
    refine lv_aload_n hx hb d_By_putFrom_14 rfl (lv_at hl 1 rfl) ?_
    refine va_get (D := D9) (ci := 0) (C := R_By) (T := F_By) (N := 2) hx hb hts i_By hown hK hP 3 ww_3 rfl 0 (by decide) (hts _ g_35) (fun _ h9 => h9) rfl d_By_putFrom_15 ?_
    refine va_alen (D := D9) hx hb hK hP 4 0 ww_4 rfl rfl d_By_putFrom_18 ?_
    refine lv_topq (y := nI 65536) (rfl) ?_
    refine lv_iload_n hx hb d_By_putFrom_19 rfl (lv_at hl 2 rfl) ?_
    refine lv_isub hx hb d_By_putFrom_20 ?_
    refine lv_topq (y := nI (65536 - fr)) (pk_sub (by omega)) ?_
    refine va_mmin hx hb (by rw [hml]; exact hl.1.symm) hown (hts _ g_301) (hts _ g_302) (hts _ g_14) (hts _ g_303) (by decide) (by decide) (by decide) (by decide) d_By_putFrom_21 ?_
    refine lv_topq (y := nI 65536 - nI L.length) (if_neg (fun z9 => nI_pos (show 65536 - fr < 2 ^ 31 by omega) (Int32.lt_trans z9 (pk_sneg (a := 65536) (b := L.length) (by omega) (by omega))))) ?_
    refine lv_istore (lv' := [(4, _), (0, _), (1, _), (2, _), (3, _)]) hx hb d_By_putFrom_24 hl (by decide) rfl (fun ls hl => ?_)
    refine lv_iload_n hx hb d_By_putFrom_26 rfl (lv_at hl 3 rfl) ?_
    refine lv_if_lt (tgt := 53) hx hb d_By_putFrom_27 (by decide) (fun c6 => ?_) (fun c6 => ?_)
    · have c6 : fr < 0 := (nI_ltI (a := fr) (b := 0) (by omega) (by omega)).mp c6
      exfalso; omega
    · have c6 : ¬ (fr < 0) := fun z9 => c6 ((nI_ltI (a := fr) (b := 0) (by omega) (by omega)).mpr z9)
      refine lv_iload hx hb d_By_putFrom_30 (lv_at hl 0 rfl) ?_
      refine lv_if_le (tgt := 53) hx hb d_By_putFrom_32 (by decide) (fun c7 => ?_) (fun c7 => ?_)
      · refine lv_aload_n hx hb d_By_putFrom_53 rfl (lv_at hl 1 rfl) ?_
        refine lv_dup hx hb d_By_putFrom_54 rfl ?_
        refine va_get (D := D9) (ci := 0) (C := R_By) (T := F_By) (N := 2) hx hb hts i_By hown hK hP 20 ww_20 rfl 1 (by decide) (hts _ g_40) (fun _ h9 => h9) rfl d_By_putFrom_55 ?_
        refine lv_topq (y := nI L.length) (hLl) ?_
        refine lv_iload_n hx hb d_By_putFrom_58 rfl (lv_at hl 4 rfl) ?_
        refine lv_iadd hx hb d_By_putFrom_59 ?_
        refine lv_topq (y := nI (L.length + k)) (nI_add _ _) ?_
        refine va_put (D := D9) (ty := .int) (ci := 0) (C := R_By) (T := F_By) (N := 2) hx hb hts i_By t_By t_By_ok n_By hown hK hP hD hS 20 ww_20 rfl 1 (by decide) (hts _ g_40) (fun _ h9 => h9) rfl (by decide +kernel) rfl rfl (Nat.le_of_ble_eq_true rfl) d_By_putFrom_60 (fun H locs hP hD hS => ?_)
        obtain ⟨I8, aI8, sI8, hP, hD⟩ := fx (P := fun z => va_P D9 cls9 (WW a cB cI cJ cG z _ O) H ∧ va_D A0 (WW a cB cI cJ cG z _ O)) ⟨wp_13 hP, wd_13 hD⟩
        exact hret _ _ _ _ _ _ hS hP hD d_By_putFrom_63 (⟨rfl, (sm_mo sI8 (by decide)), aI8, sm_rf, BR_more (BR_eq hBL rfl) (Or.inl (by omega))⟩)
      · exact absurd (Int32.le_of_lt (pk_sneg (a := 65536) (b := L.length) (by omega) (by omega))) c7
set_option maxHeartbeats 4000000 in
set_option maxRecDepth 100000 in
/-- Bytes.putFrom -/
theorem m_By_putFrom_tp_ms (l : Launch) (D9 : va_G) (cB cI cJ cG : ClassId) (a : Nat → Nat) (O : Nat → Int64) (I : Nat → Int32) (F : Nat → Nat → Int32) (L t : List Nat) (c9 fr k : Nat) (hBL : BR c9 65536 (F 2) L) (hBt : BR 0 65536 (F 21) t) (hLl : I 2 = nI L.length) (htl : t.length ≤ 65536) (hft : fr + k ≤ t.length) (hLb : L.length < 1000000) : MC l D9 cB cI cJ cG a O y_By_putFrom b_By_putFrom 5 (none) 1 [.ref (a 1), .ref (a 20), .int (nI fr), .int (nI k)] I F (fun v I' F' => v = none ∧ sm [2] I I' ∧ I' 2 = nI (L.length + k) ∧ sm [2] F F' ∧ BR c9 65536 (F' 2) (L ++ sl9 t fr k)) := by
  refine mc_ofv (by decide) (Nat.le_of_ble_eq_true rfl) ?_
  intro p e s m below meth c ls A0 Q C0 hP hD hA hS hl hret
  obtain ⟨hx, hb, hml, hr, hlocks, hown, hts, hK⟩ := id C0
  have hl : lv_has ls 5 [(0, .ref (a 1)), (1, .ref (a 20)), (2, .int (nI fr)), (3, .int (nI k))] := hl
  by_cases hA : L.length ≤ 65536
  · refine lv_iload_n hx hb d_By_putFrom_0 rfl (lv_at hl 3 rfl) ?_
    refine lv_aload_n hx hb d_By_putFrom_1 rfl (lv_at hl 0 rfl) ?_
    refine va_get (D := D9) (ci := 0) (C := R_By) (T := F_By) (N := 2) hx hb hts i_By hown hK hP 1 ww_1 rfl 0 (by decide) (hts _ g_35) (fun _ h9 => h9) rfl d_By_putFrom_2 ?_
    refine va_alen (D := D9) hx hb hK hP 2 0 ww_2 rfl rfl d_By_putFrom_5 ?_
    refine lv_topq (y := nI 65536) (rfl) ?_
    refine lv_aload_n hx hb d_By_putFrom_6 rfl (lv_at hl 0 rfl) ?_
    refine va_get (D := D9) (ci := 0) (C := R_By) (T := F_By) (N := 2) hx hb hts i_By hown hK hP 1 ww_1 rfl 1 (by decide) (hts _ g_40) (fun _ h9 => h9) rfl d_By_putFrom_7 ?_
    refine lv_topq (y := nI L.length) (hLl) ?_
    refine lv_isub hx hb d_By_putFrom_10 ?_
    refine lv_topq (y := nI (65536 - L.length)) (pk_sub (by omega)) ?_
    refine va_mmin hx hb (by rw [hml]; exact hl.1.symm) hown (hts _ g_301) (hts _ g_302) (hts _ g_14) (hts _ g_303) (by decide) (by decide) (by decide) (by decide) d_By_putFrom_11 ?_
    refine lv_topq (y := nI (min k (65536 - L.length))) (mn_nI (by omega) (by omega)) ?_
    refine lv_aload_n hx hb d_By_putFrom_14 rfl (lv_at hl 1 rfl) ?_
    refine va_get (D := D9) (ci := 0) (C := R_By) (T := F_By) (N := 2) hx hb hts i_By hown hK hP 20 ww_20 rfl 0 (by decide) (hts _ g_35) (fun _ h9 => h9) rfl d_By_putFrom_15 ?_
    refine va_alen (D := D9) hx hb hK hP 21 0 ww_21 rfl rfl d_By_putFrom_18 ?_
    refine lv_topq (y := nI 65536) (rfl) ?_
    refine lv_iload_n hx hb d_By_putFrom_19 rfl (lv_at hl 2 rfl) ?_
    refine lv_isub hx hb d_By_putFrom_20 ?_
    refine lv_topq (y := nI (65536 - fr)) (pk_sub (by omega)) ?_
    refine va_mmin hx hb (by rw [hml]; exact hl.1.symm) hown (hts _ g_301) (hts _ g_302) (hts _ g_14) (hts _ g_303) (by decide) (by decide) (by decide) (by decide) d_By_putFrom_21 ?_
    refine lv_topq (y := nI (min k (65536 - L.length))) ((mn_nI (by omega) (by omega)).trans (congrArg nI (by omega))) ?_
    refine lv_istore (lv' := [(4, _), (0, _), (1, _), (2, _), (3, _)]) hx hb d_By_putFrom_24 hl (by decide) rfl (fun ls hl => ?_)
    refine lv_iload_n hx hb d_By_putFrom_26 rfl (lv_at hl 3 rfl) ?_
    refine lv_if_lt (tgt := 53) hx hb d_By_putFrom_27 (by decide) (fun c1 => ?_) (fun c1 => ?_)
    · have c1 : fr < 0 := (nI_ltI (a := fr) (b := 0) (by omega) (by omega)).mp c1
      exfalso; omega
    · have c1 : ¬ (fr < 0) := fun z9 => c1 ((nI_ltI (a := fr) (b := 0) (by omega) (by omega)).mpr z9)
      refine lv_iload hx hb d_By_putFrom_30 (lv_at hl 0 rfl) ?_
      refine lv_if_le (tgt := 53) hx hb d_By_putFrom_32 (by decide) (fun c2 => ?_) (fun c2 => ?_)
      · have c2 : min k (65536 - L.length) ≤ 0 := (nI_leI (a := min k (65536 - L.length)) (b := 0) (by omega) (by omega)).mp c2
        refine lv_aload_n hx hb d_By_putFrom_53 rfl (lv_at hl 1 rfl) ?_
        refine lv_dup hx hb d_By_putFrom_54 rfl ?_
        refine va_get (D := D9) (ci := 0) (C := R_By) (T := F_By) (N := 2) hx hb hts i_By hown hK hP 1 ww_1 rfl 1 (by decide) (hts _ g_40) (fun _ h9 => h9) rfl d_By_putFrom_55 ?_
        refine lv_topq (y := nI L.length) (hLl) ?_
        refine lv_iload_n hx hb d_By_putFrom_58 rfl (lv_at hl 4 rfl) ?_
        refine lv_iadd hx hb d_By_putFrom_59 ?_
        refine lv_topq (y := nI (L.length + k)) (nI_add _ _) ?_
        refine va_put (D := D9) (ty := .int) (ci := 0) (C := R_By) (T := F_By) (N := 2) hx hb hts i_By t_By t_By_ok n_By hown hK hP hD hS 1 ww_1 rfl 1 (by decide) (hts _ g_40) (fun _ h9 => h9) rfl (by decide +kernel) rfl rfl (Nat.le_of_ble_eq_true rfl) d_By_putFrom_60 (fun H locs hP hD hS => ?_)
        obtain ⟨I3, aI3, sI3, hP, hD⟩ := fx (P := fun z => va_P D9 cls9 (WW a cB cI cJ cG z _ O) H ∧ va_D A0 (WW a cB cI cJ cG z _ O)) ⟨wp_2 hP, wd_2 hD⟩
        exact hret _ _ _ _ _ _ hS hP hD d_By_putFrom_63 (⟨rfl, (sm_mo sI3 (by decide)), aI3, sm_rf, BR_more hBL (by rcases (show k = 0 ∨ 65536 ≤ L.length by omega) with z | z; exact Or.inr (by rw [z]; exact sl9_0 _ _); exact Or.inl z)⟩)
      · have c2 : ¬ (min k (65536 - L.length) ≤ 0) := fun z9 => c2 ((nI_leI (a := min k (65536 - L.length)) (b := 0) (by omega) (by omega)).mpr z9)
        refine lv_aload_n hx hb d_By_putFrom_35 rfl (lv_at hl 2 rfl) ?_
        refine va_get (D := D9) (ci := 0) (C := R_By) (T := F_By) (N := 2) hx hb hts i_By hown hK hP 20 ww_20 rfl 0 (by decide) (hts _ g_35) (fun _ h9 => h9) rfl d_By_putFrom_36 ?_
        refine lv_iload_n hx hb d_By_putFrom_39 rfl (lv_at hl 3 rfl) ?_
        refine lv_aload_n hx hb d_By_putFrom_40 rfl (lv_at hl 1 rfl) ?_
        refine va_get (D := D9) (ci := 0) (C := R_By) (T := F_By) (N := 2) hx hb hts i_By hown hK hP 1 ww_1 rfl 0 (by decide) (hts _ g_35) (fun _ h9 => h9) rfl d_By_putFrom_41 ?_
        refine lv_aload_n hx hb d_By_putFrom_44 rfl (lv_at hl 1 rfl) ?_
        refine va_get (D := D9) (ci := 0) (C := R_By) (T := F_By) (N := 2) hx hb hts i_By hown hK hP 1 ww_1 rfl 1 (by decide) (hts _ g_40) (fun _ h9 => h9) rfl d_By_putFrom_45 ?_
        refine lv_topq (y := nI L.length) (hLl) ?_
        refine lv_iload hx hb d_By_putFrom_48 (lv_at hl 0 rfl) ?_
        refine va_copyi (D := D9) (ty := .byte) hx hb (by rw [hml]; exact hl.1.symm) hown (hts _ g_304) (hts _ g_306) (hts _ g_305) (hts _ g_15) hK hP hD hS 21 2 0 0 ww_21 ww_2 rfl rfl rfl (nI_pos (by omega)) (nI_pos (by omega)) (nI_pos (by omega)) (by rw [nI_clamp (by omega), nI_clamp (by omega)]; omega) (by rw [nI_clamp (by omega), nI_clamp (by omega)]; omega) (fun i _ => hBt.1 _) (by decide) (by decide) d_By_putFrom_50 (fun H locs hP hD hS => ?_)
        obtain ⟨F4, aF4, sF4, hP, hD⟩ := fx (P := fun z => va_P D9 cls9 (WW a cB cI cJ cG _ z O) H ∧ va_D A0 (WW a cB cI cJ cG _ z O)) ⟨wpa_2 hP, wda_2 hD⟩
        rw [nI_clamp (by omega), nI_clamp (by omega), nI_clamp (by omega)] at aF4
        refine lv_aload_n hx hb d_By_putFrom_53 rfl (lv_at hl 1 rfl) ?_
        refine lv_dup hx hb d_By_putFrom_54 rfl ?_
        refine va_get (D := D9) (ci := 0) (C := R_By) (T := F_By) (N := 2) hx hb hts i_By hown hK hP 1 ww_1 rfl 1 (by decide) (hts _ g_40) (fun _ h9 => h9) rfl d_By_putFrom_55 ?_
        refine lv_topq (y := nI L.length) (hLl) ?_
        refine lv_iload_n hx hb d_By_putFrom_58 rfl (lv_at hl 4 rfl) ?_
        refine lv_iadd hx hb d_By_putFrom_59 ?_
        refine lv_topq (y := nI (L.length + k)) (nI_add _ _) ?_
        refine va_put (D := D9) (ty := .int) (ci := 0) (C := R_By) (T := F_By) (N := 2) hx hb hts i_By t_By t_By_ok n_By hown hK hP hD hS 1 ww_1 rfl 1 (by decide) (hts _ g_40) (fun _ h9 => h9) rfl (by decide +kernel) rfl rfl (Nat.le_of_ble_eq_true rfl) d_By_putFrom_60 (fun H locs hP hD hS => ?_)
        obtain ⟨I5, aI5, sI5, hP, hD⟩ := fx (P := fun z => va_P D9 cls9 (WW a cB cI cJ cG z _ O) H ∧ va_D A0 (WW a cB cI cJ cG z _ O)) ⟨wp_2 hP, wd_2 hD⟩
        exact hret _ _ _ _ _ _ hS hP hD d_By_putFrom_63 (⟨rfl, (sm_mo sI5 (by decide)), aI5, (sm_mo sF4 (by decide)), BR_eq (BR_cpy hBL hBt hft htl rfl) aF4⟩)
  · refine lv_iload_n hx hb d_By_putFrom_0 rfl (lv_at hl 3 rfl) ?_
    refine lv_aload_n hx hb d_By_putFrom_1 rfl (lv_at hl 0 rfl) ?_
    refine va_get (D := D9) (ci := 0) (C := R_By) (T := F_By) (N := 2) hx hb hts i_By hown hK hP 1 ww_1 rfl 0 (by decide) (hts _ g_35) (fun _ h9 => h9) rfl d_By_putFrom_2 ?_
    refine va_alen (D := D9) hx hb hK hP 2 0 ww_2 rfl rfl d_By_putFrom_5 ?_
    refine lv_topq (y := nI 65536) (rfl) ?_
    refine lv_aload_n hx hb d_By_putFrom_6 rfl (lv_at hl 0 rfl) ?_
    refine va_get (D := D9) (ci := 0) (C := R_By) (T := F_By) (N := 2) hx hb hts i_By hown hK hP 1 ww_1 rfl 1 (by decide) (hts _ g_40) (fun _ h9 => h9) rfl d_By_putFrom_7 ?_
    refine lv_topq (y := nI L.length) (hLl) ?_
    refine lv_isub hx hb d_By_putFrom_10 ?_
    refine lv_topq (y := nI 65536 - nI L.length) (rfl) ?_
    refine va_mmin hx hb (by rw [hml]; exact hl.1.symm) hown (hts _ g_301) (hts _ g_302) (hts _ g_14) (hts _ g_303) (by decide) (by decide) (by decide) (by decide) d_By_putFrom_11 ?_
    refine lv_topq (y := nI 65536 - nI L.length) (if_pos (Int32.lt_of_lt_of_le (pk_sneg (a := 65536) (b := L.length) (by omega) (by omega)) (nI_pos' (by omega)))) ?_
    refine lv_aload_n hx hb d_By_putFrom_14 rfl (lv_at hl 1 rfl) ?_
    refine va_get (D := D9) (ci := 0) (C := R_By) (T := F_By) (N := 2) hx hb hts i_By hown hK hP 20 ww_20 rfl 0 (by decide) (hts _ g_35) (fun _ h9 => h9) rfl d_By_putFrom_15 ?_
    refine va_alen (D := D9) hx hb hK hP 21 0 ww_21 rfl rfl d_By_putFrom_18 ?_
    refine lv_topq (y := nI 65536) (rfl) ?_
    refine lv_iload_n hx hb d_By_putFrom_19 rfl (lv_at hl 2 rfl) ?_
    refine lv_isub hx hb d_By_putFrom_20 ?_
    refine lv_topq (y := nI (65536 - fr)) (pk_sub (by omega)) ?_
    refine va_mmin hx hb (by rw [hml]; exact hl.1.symm) hown (hts _ g_301) (hts _ g_302) (hts _ g_14) (hts _ g_303) (by decide) (by decide) (by decide) (by decide) d_By_putFrom_21 ?_
    refine lv_topq (y := nI 65536 - nI L.length) (if_neg (fun z9 => nI_pos (show 65536 - fr < 2 ^ 31 by omega) (Int32.lt_trans z9 (pk_sneg (a := 65536) (b := L.length) (by omega) (by omega))))) ?_
    refine lv_istore (lv' := [(4, _), (0, _), (1, _), (2, _), (3, _)]) hx hb d_By_putFrom_24 hl (by decide) rfl (fun ls hl => ?_)
    refine lv_iload_n hx hb d_By_putFrom_26 rfl (lv_at hl 3 rfl) ?_
    refine lv_if_lt (tgt := 53) hx hb d_By_putFrom_27 (by decide) (fun c6 => ?_) (fun c6 => ?_)
    · have c6 : fr < 0 := (nI_ltI (a := fr) (b := 0) (by omega) (by omega)).mp c6
      exfalso; omega
    · have c6 : ¬ (fr < 0) := fun z9 => c6 ((nI_ltI (a := fr) (b := 0) (by omega) (by omega)).mpr z9)
      refine lv_iload hx hb d_By_putFrom_30 (lv_at hl 0 rfl) ?_
      refine lv_if_le (tgt := 53) hx hb d_By_putFrom_32 (by decide) (fun c7 => ?_) (fun c7 => ?_)
      · refine lv_aload_n hx hb d_By_putFrom_53 rfl (lv_at hl 1 rfl) ?_
        refine lv_dup hx hb d_By_putFrom_54 rfl ?_
        refine va_get (D := D9) (ci := 0) (C := R_By) (T := F_By) (N := 2) hx hb hts i_By hown hK hP 1 ww_1 rfl 1 (by decide) (hts _ g_40) (fun _ h9 => h9) rfl d_By_putFrom_55 ?_
        refine lv_topq (y := nI L.length) (hLl) ?_
        refine lv_iload_n hx hb d_By_putFrom_58 rfl (lv_at hl 4 rfl) ?_
        refine lv_iadd hx hb d_By_putFrom_59 ?_
        refine lv_topq (y := nI (L.length + k)) (nI_add _ _) ?_
        refine va_put (D := D9) (ty := .int) (ci := 0) (C := R_By) (T := F_By) (N := 2) hx hb hts i_By t_By t_By_ok n_By hown hK hP hD hS 1 ww_1 rfl 1 (by decide) (hts _ g_40) (fun _ h9 => h9) rfl (by decide +kernel) rfl rfl (Nat.le_of_ble_eq_true rfl) d_By_putFrom_60 (fun H locs hP hD hS => ?_)
        obtain ⟨I8, aI8, sI8, hP, hD⟩ := fx (P := fun z => va_P D9 cls9 (WW a cB cI cJ cG z _ O) H ∧ va_D A0 (WW a cB cI cJ cG z _ O)) ⟨wp_2 hP, wd_2 hD⟩
        exact hret _ _ _ _ _ _ hS hP hD d_By_putFrom_63 (⟨rfl, (sm_mo sI8 (by decide)), aI8, sm_rf, BR_more (BR_eq hBL rfl) (Or.inl (by omega))⟩)
      · exact absurd (Int32.le_of_lt (pk_sneg (a := 65536) (b := L.length) (by omega) (by omega))) c7
end
section
/-! BYTES in lists: what put, putTwo, putFour and set do -/
theorem ub_nI {n : Nat} (h : n < 2 ^ 32) : ub (nI n) = n % 256 := by unfold ub; rw [pk_tn h]
def un (x : Int32) : Nat := x.toBitVec.toNat
theorem un_lt (x : Int32) : un x < 2 ^ 32 := x.toBitVec.isLt
theorem toInt_un (w : Int32) : w.toInt = (un w : Int) ∨ w.toInt = (un w : Int) - 2 ^ 32 := by
  have h : w.toInt = w.toBitVec.toInt := rfl
  rw [h, BitVec.toInt_eq_toNat_cond]
  unfold un
  split
  · exact Or.inl rfl
  · exact Or.inr rfl
theorem ub_int {w : Int32} {n : Nat} (h : w.toInt % 256 = (n : Int) % 256) : ub w = n % 256 := by
  have := mod_256 w
  unfold ub
  omega
theorem ub_shr8 (x : Int32) : ub (x >>> ((8 : Int32) &&& 31)) = un x / 256 % 256 := by
  refine ub_int ?_
  rw [pk_shr x _ 8 (by decide), Int.shiftRight_eq_div_pow]
  rcases toInt_un x with h | h <;> rw [h] <;> omega
theorem ub_shr16 (x : Int32) : ub (x >>> ((16 : Int32) &&& 31)) = un x / 65536 % 256 := by
  refine ub_int ?_
  rw [pk_shr x _ 16 (by decide), Int.shiftRight_eq_div_pow]
  rcases toInt_un x with h | h <;> rw [h] <;> omega
theorem ub_shr24 (x : Int32) : ub ((x >>> ((16 : Int32) &&& 31)) >>> ((8 : Int32) &&& 31)) = un x / 16777216 % 256 := by
  refine ub_int ?_
  rw [pk_shr _ _ 8 (by decide), pk_shr x _ 16 (by decide), Int.shiftRight_eq_div_pow, Int.shiftRight_eq_div_pow]
  rcases toInt_un x with h | h <;> rw [h] <;> omega
theorem ub_un (x : Int32) : ub x = un x % 256 := rfl
def b2 (n : Nat) : List Nat := [n / 256 % 256, n % 256]
def b4 (x : Int32) : List Nat := [un x / 16777216 % 256, un x / 65536 % 256, un x / 256 % 256, un x % 256]
theorem BR_bp2 {c : Nat} {f : Nat → Int32} {L : List Nat} {x : Int32} (h : BR c 65536 f L) (hL : L.length < 1000000) : BR c 65536 (bp2 f (nI L.length) x) (L ++ b2 (un x)) := by
  have h1 := BR_bset (x := x >>> ((8 : Int32) &&& 31)) h (by omega)
  have h2 := BR_bset (x := x) h1 (by rw [List.length_append, List.length_singleton]; omega)
  rw [List.length_append, List.length_singleton, List.append_assoc, ub_shr8, ← nI_1] at h2
  exact h2
theorem BR_bp4 {c : Nat} {f : Nat → Int32} {L : List Nat} {x : Int32} (h : BR c 65536 f L) (hL : L.length < 1000000) : BR c 65536 (bp4 f (nI L.length) x) (L ++ b4 x) := by
  have h1 := BR_bset (x := (x >>> ((16 : Int32) &&& 31)) >>> ((8 : Int32) &&& 31)) h (by omega)
  rw [ub_shr24] at h1
  have h2 := BR_bset (x := x >>> ((16 : Int32) &&& 31)) h1 (by rw [List.length_append, List.length_singleton]; omega)
  have h3 := BR_bset (x := x >>> ((8 : Int32) &&& 31)) h2 (by simp only [List.length_append, List.length_singleton]; omega)
  have h4 := BR_bset (x := x) h3 (by simp only [List.length_append, List.length_singleton]; omega)
  simp only [List.length_append, List.length_singleton, List.append_assoc, ub_shr8, ub_shr16, ← nI_1] at h4
  exact h4
theorem BR_set {c n p : Nat} {f : Nat → Int32} {L : List Nat} {v : Int32} (h : BR c n f L) : BR c n (upd f p v.toInt8.toInt32) (L.set p (ub v)) := by
  refine ⟨sb_fitU h.1 (pk_fb v), ?_⟩
  intro i b hb hc hn
  by_cases hi : p = i
  · subst hi
    have hlt := (List.getElem?_eq_some_iff.mp hb).1
    rw [List.length_set] at hlt
    rw [List.getElem?_set_self hlt, Option.some.injEq] at hb
    have h1 := (BR_put (c := 0) (n := n) (L := List.replicate p 0) (x := v) (f := fun _ => 0) ⟨sb_fit0, fun i b hb _ _ => by
      have h5 := (List.getElem?_eq_some_iff.mp hb).2; rw [List.getElem_replicate] at h5; rw [← h5]; rfl⟩).2 p (ub v) (by rw [List.getElem?_append_right (by simp), List.length_replicate, Nat.sub_self]; rfl) (Nat.zero_le _) hn
    rw [List.length_replicate, pk_us] at h1
    rw [pk_us, h1, hb]
  · rw [List.getElem?_set_ne hi] at hb
    rw [pk_un (fun z => hi z.symm)]
    exact h.2 i b hb hc hn
theorem BR_bset2 {c p : Nat} {f : Nat → Int32} {L : List Nat} {x : Int32} (h : BR c 65536 f L) (hp : p < 1000000) : BR c 65536 (bset (bset f (nI p) (x >>> ((8 : Int32) &&& 31))) (nI p + 1) x) ((L.set p (un x / 256 % 256)).set (p + 1) (un x % 256)) := by
  have e1 : ∀ (q : Nat) (g : Nat → Int32) (M : List Nat) (y : Int32), q < 1000001 → BR c 65536 g M → BR c 65536 (bset g (nI q) y) (M.set q (ub y)) := by
    intro q g M y hq hM
    by_cases hi : q < 65536
    · rw [bset_in hi]; exact BR_set hM
    · rw [bset_out (by omega) (by omega)]
      refine ⟨hM.1, ?_⟩
      intro i b hb hc hn
      rw [List.getElem?_set_ne (by omega)] at hb
      exact hM.2 i b hb hc hn
  have h1 := e1 p f L (x >>> ((8 : Int32) &&& 31)) (by omega) h
  have h2 := e1 (p + 1) _ _ x (by omega) h1
  rw [ub_shr8, ← nI_1] at h2
  exact h2
theorem or_256 {p q : Nat} (hp : p < 256) (hq : q < 256) : p * 256 ||| q = p * 256 + q := by
  rw [show p * 256 = 2 ^ 8 * p by omega, Nat.two_pow_add_eq_or_of_lt (by omega : q < 2 ^ 8)]
theorem nI_or {p q : Nat} (hp : p < 2 ^ 32) (hq : q < 2 ^ 32) : nI p ||| nI q = nI (p ||| q) := by
  have h := Nat.or_lt_two_pow hp hq
  apply Int32.toBitVec_inj.mp
  apply BitVec.eq_of_toNat_eq
  rw [Int32.toBitVec_or, BitVec.toNat_or, pk_tn hp, pk_tn hq, pk_tn h]
theorem two_nI {p q : Nat} (hp : p < 256) (hq : q < 256) : nI p <<< ((8 : Int32) &&& 31) ||| nI q = nI (p * 256 + q) := by
  rw [pk_shlN _ 8 (by decide) (by omega), nI_or (by omega) (by omega), show p * 2 ^ 8 = p * 256 by omega, or_256 hp hq]
theorem bt2_L {f : Nat → Int32} {t : List Nat} (h : BR 0 65536 f t) {i : Nat} (hn : t.length ≤ 65536) (hi : i + 1 < t.length) : bt2 f (nI i) = nI (tb t i * 256 + tb t (i + 1)) := by
  unfold bt2
  rw [BR_bt h (by omega) hn, show nI i + 1 = nI (i + 1) from nI_1 i, BR_bt h hi hn]
  exact two_nI (BR_lt h (by omega) (Nat.zero_le _) (by omega)) (BR_lt h hi (Nat.zero_le _) (by omega))
/-- two bytes, four bytes as a number -/
def t2 (t : List Nat) (i : Nat) : Nat := tb t i * 256 + tb t (i + 1)
def i4 (t : List Nat) (i : Nat) : Int32 := nI (tb t i * 256 + tb t (i + 1)) <<< ((16 : Int32) &&& 31) ||| nI (tb t (i + 2) * 256 + tb t (i + 2 + 1))
theorem m_By_putL_tp (l : Launch) (D9 : va_G) (cB cI cJ cG : ClassId) (a : Nat → Nat) (O : Nat → Int64) (I : Nat → Int32) (F : Nat → Nat → Int32) (L : List Nat) (c9 : Nat) (x : Int32) (hBL : BR c9 65536 (F 2) L) (hLl : I 2 = nI L.length) (hLb : L.length < 1000000) : MC l D9 cB cI cJ cG a O y_By_put b_By_put 2 none 1 [.ref (a 1), .int x] I F (fun v I' F' => v = none ∧ sm [2] I I' ∧ I' 2 = nI (L.length + 1) ∧ sm [2] F F' ∧ BR c9 65536 (F' 2) (L ++ [ub x])) := mw_mono (m_By_put_tp l D9 cB cI cJ cG a O I F x) (fun v w h => by
  obtain ⟨I', F', hw, h1, h2, h3⟩ := h
  subst h2 h3
  exact ⟨_, _, hw, h1, sm_up sm_rf (by decide), (uf_s.trans (by rw [hLl]; simp only [nI_1])), sm_up sm_rf (by decide), BR_eq (BR_bset hBL (by omega)) (uf_s.trans (by rw [hLl]))⟩)
theorem m_By_putTwoL_tp (l : Launch) (D9 : va_G) (cB cI cJ cG : ClassId) (a : Nat → Nat) (O : Nat → Int64) (I : Nat → Int32) (F : Nat → Nat → Int32) (L : List Nat) (c9 : Nat) (x : Int32) (hBL : BR c9 65536 (F 2) L) (hLl : I 2 = nI L.length) (hLb : L.length < 1000000) : MC l D9 cB cI cJ cG a O y_By_putTwo b_By_putTwo 2 none 2 [.ref (a 1), .int x] I F (fun v I' F' => v = none ∧ sm [2] I I' ∧ I' 2 = nI (L.length + 2) ∧ sm [2] F F' ∧ BR c9 65536 (F' 2) (L ++ b2 (un x))) := mw_mono (m_By_putTwo_tp l D9 cB cI cJ cG a O I F x) (fun v w h => by
  obtain ⟨I', F', hw, h1, h2, h3⟩ := h
  subst h2 h3
  exact ⟨_, _, hw, h1, sm_up sm_rf (by decide), (uf_s.trans (by rw [hLl]; simp only [nI_1])), sm_up sm_rf (by decide), BR_eq (BR_bp2 hBL hLb) (uf_s.trans (by rw [hLl]))⟩)
theorem m_By_putFourL_tp (l : Launch) (D9 : va_G) (cB cI cJ cG : ClassId) (a : Nat → Nat) (O : Nat → Int64) (I : Nat → Int32) (F : Nat → Nat → Int32) (L : List Nat) (c9 : Nat) (x : Int32) (hBL : BR c9 65536 (F 2) L) (hLl : I 2 = nI L.length) (hLb : L.length < 1000000) : MC l D9 cB cI cJ cG a O y_By_putFour b_By_putFour 2 none 3 [.ref (a 1), .int x] I F (fun v I' F' => v = none ∧ sm [2] I I' ∧ I' 2 = nI (L.length + 4) ∧ sm [2] F F' ∧ BR c9 65536 (F' 2) (L ++ b4 x)) := mw_mono (m_By_putFour_tp l D9 cB cI cJ cG a O I F x) (fun v w h => by
  obtain ⟨I', F', hw, h1, h2, h3⟩ := h
  subst h2 h3
  exact ⟨_, _, hw, h1, sm_up sm_rf (by decide), (uf_s.trans (by rw [hLl]; simp only [nI_1])), sm_up sm_rf (by decide), BR_eq (BR_bp4 hBL hLb) (uf_s.trans (by rw [hLl]))⟩)
theorem m_By_setTwoL_tp (l : Launch) (D9 : va_G) (cB cI cJ cG : ClassId) (a : Nat → Nat) (O : Nat → Int64) (I : Nat → Int32) (F : Nat → Nat → Int32) (L : List Nat) (c9 q : Nat) (x : Int32) (hBL : BR c9 65536 (F 2) L) (hq : q < 1000000) : MC l D9 cB cI cJ cG a O y_By_setTwo b_By_setTwo 3 none 1 [.ref (a 1), .int (nI q), .int x] I F (fun v I' F' => v = none ∧ I = I' ∧ sm [2] F F' ∧ BR c9 65536 (F' 2) ((L.set q (un x / 256 % 256)).set (q + 1) (un x % 256))) := mw_mono (m_By_setTwo_tp l D9 cB cI cJ cG a O I F (nI q) x) (fun v w h => by
  obtain ⟨I', F', hw, h1, h2, h3⟩ := h
  subst h2 h3
  exact ⟨_, _, hw, h1, rfl, sm_up sm_rf (by decide), BR_eq (BR_bset2 hBL hq) uf_s⟩)
theorem m_By_atL_tp (l : Launch) (D9 : va_G) (cB cI cJ cG : ClassId) (a : Nat → Nat) (O : Nat → Int64) (I : Nat → Int32) (F : Nat → Nat → Int32) (L : List Nat) (q : Nat) (hBL : BR 0 65536 (F 2) L) (hLb : L.length ≤ 65536) (hq : q < L.length) : MC l D9 cB cI cJ cG a O y_By_at b_By_at 2 (some .int) 0 [.ref (a 1), .int (nI q)] I F (fun v I' F' => v = some (.int (nI (tb L q))) ∧ I = I' ∧ F = F') := mw_mono (m_By_at_tp l D9 cB cI cJ cG a O I F (nI q)) (fun v w h => by
  obtain ⟨I', F', hw, h1, h2, h3⟩ := h
  rw [BR_bt hBL hq hLb] at h1
  exact ⟨_, _, hw, h1, h2, h3⟩)
theorem m_By_twoAtL_tp (l : Launch) (D9 : va_G) (cB cI cJ cG : ClassId) (a : Nat → Nat) (O : Nat → Int64) (I : Nat → Int32) (F : Nat → Nat → Int32) (L : List Nat) (q : Nat) (hBL : BR 0 65536 (F 2) L) (hLb : L.length ≤ 65536) (hq : q + 1 < L.length) : MC l D9 cB cI cJ cG a O y_By_twoAt b_By_twoAt 2 (some .int) 1 [.ref (a 1), .int (nI q)] I F (fun v I' F' => v = some (.int (nI (tb L q * 256 + tb L (q + 1)))) ∧ I = I' ∧ F = F') := mw_mono (m_By_twoAt_tp l D9 cB cI cJ cG a O I F (nI q)) (fun v w h => by
  obtain ⟨I', F', hw, h1, h2, h3⟩ := h
  rw [bt2_L hBL hLb hq] at h1
  exact ⟨_, _, hw, h1, h2, h3⟩)
theorem m_By_putL_gb (l : Launch) (D9 : va_G) (cB cI cJ cG : ClassId) (a : Nat → Nat) (O : Nat → Int64) (I : Nat → Int32) (F : Nat → Nat → Int32) (L : List Nat) (c9 : Nat) (x : Int32) (hBL : BR c9 65536 (F 4) L) (hLl : I 3 = nI L.length) (hLb : L.length < 1000000) : MC l D9 cB cI cJ cG a O y_By_put b_By_put 2 none 1 [.ref (a 3), .int x] I F (fun v I' F' => v = none ∧ sm [3] I I' ∧ I' 3 = nI (L.length + 1) ∧ sm [4] F F' ∧ BR c9 65536 (F' 4) (L ++ [ub x])) := mw_mono (m_By_put_gb l D9 cB cI cJ cG a O I F x) (fun v w h => by
  obtain ⟨I', F', hw, h1, h2, h3⟩ := h
  subst h2 h3
  exact ⟨_, _, hw, h1, sm_up sm_rf (by decide), (uf_s.trans (by rw [hLl]; simp only [nI_1])), sm_up sm_rf (by decide), BR_eq (BR_bset hBL (by omega)) (uf_s.trans (by rw [hLl]))⟩)
theorem m_By_putTwoL_gb (l : Launch) (D9 : va_G) (cB cI cJ cG : ClassId) (a : Nat → Nat) (O : Nat → Int64) (I : Nat → Int32) (F : Nat → Nat → Int32) (L : List Nat) (c9 : Nat) (x : Int32) (hBL : BR c9 65536 (F 4) L) (hLl : I 3 = nI L.length) (hLb : L.length < 1000000) : MC l D9 cB cI cJ cG a O y_By_putTwo b_By_putTwo 2 none 2 [.ref (a 3), .int x] I F (fun v I' F' => v = none ∧ sm [3] I I' ∧ I' 3 = nI (L.length + 2) ∧ sm [4] F F' ∧ BR c9 65536 (F' 4) (L ++ b2 (un x))) := mw_mono (m_By_putTwo_gb l D9 cB cI cJ cG a O I F x) (fun v w h => by
  obtain ⟨I', F', hw, h1, h2, h3⟩ := h
  subst h2 h3
  exact ⟨_, _, hw, h1, sm_up sm_rf (by decide), (uf_s.trans (by rw [hLl]; simp only [nI_1])), sm_up sm_rf (by decide), BR_eq (BR_bp2 hBL hLb) (uf_s.trans (by rw [hLl]))⟩)
theorem m_By_putFourL_gb (l : Launch) (D9 : va_G) (cB cI cJ cG : ClassId) (a : Nat → Nat) (O : Nat → Int64) (I : Nat → Int32) (F : Nat → Nat → Int32) (L : List Nat) (c9 : Nat) (x : Int32) (hBL : BR c9 65536 (F 4) L) (hLl : I 3 = nI L.length) (hLb : L.length < 1000000) : MC l D9 cB cI cJ cG a O y_By_putFour b_By_putFour 2 none 3 [.ref (a 3), .int x] I F (fun v I' F' => v = none ∧ sm [3] I I' ∧ I' 3 = nI (L.length + 4) ∧ sm [4] F F' ∧ BR c9 65536 (F' 4) (L ++ b4 x)) := mw_mono (m_By_putFour_gb l D9 cB cI cJ cG a O I F x) (fun v w h => by
  obtain ⟨I', F', hw, h1, h2, h3⟩ := h
  subst h2 h3
  exact ⟨_, _, hw, h1, sm_up sm_rf (by decide), (uf_s.trans (by rw [hLl]; simp only [nI_1])), sm_up sm_rf (by decide), BR_eq (BR_bp4 hBL hLb) (uf_s.trans (by rw [hLl]))⟩)
theorem m_By_setTwoL_gb (l : Launch) (D9 : va_G) (cB cI cJ cG : ClassId) (a : Nat → Nat) (O : Nat → Int64) (I : Nat → Int32) (F : Nat → Nat → Int32) (L : List Nat) (c9 q : Nat) (x : Int32) (hBL : BR c9 65536 (F 4) L) (hq : q < 1000000) : MC l D9 cB cI cJ cG a O y_By_setTwo b_By_setTwo 3 none 1 [.ref (a 3), .int (nI q), .int x] I F (fun v I' F' => v = none ∧ I = I' ∧ sm [4] F F' ∧ BR c9 65536 (F' 4) ((L.set q (un x / 256 % 256)).set (q + 1) (un x % 256))) := mw_mono (m_By_setTwo_gb l D9 cB cI cJ cG a O I F (nI q) x) (fun v w h => by
  obtain ⟨I', F', hw, h1, h2, h3⟩ := h
  subst h2 h3
  exact ⟨_, _, hw, h1, rfl, sm_up sm_rf (by decide), BR_eq (BR_bset2 hBL hq) uf_s⟩)
theorem m_By_atL_gb (l : Launch) (D9 : va_G) (cB cI cJ cG : ClassId) (a : Nat → Nat) (O : Nat → Int64) (I : Nat → Int32) (F : Nat → Nat → Int32) (L : List Nat) (q : Nat) (hBL : BR 0 65536 (F 4) L) (hLb : L.length ≤ 65536) (hq : q < L.length) : MC l D9 cB cI cJ cG a O y_By_at b_By_at 2 (some .int) 0 [.ref (a 3), .int (nI q)] I F (fun v I' F' => v = some (.int (nI (tb L q))) ∧ I = I' ∧ F = F') := mw_mono (m_By_at_gb l D9 cB cI cJ cG a O I F (nI q)) (fun v w h => by
  obtain ⟨I', F', hw, h1, h2, h3⟩ := h
  rw [BR_bt hBL hq hLb] at h1
  exact ⟨_, _, hw, h1, h2, h3⟩)
theorem m_By_twoAtL_gb (l : Launch) (D9 : va_G) (cB cI cJ cG : ClassId) (a : Nat → Nat) (O : Nat → Int64) (I : Nat → Int32) (F : Nat → Nat → Int32) (L : List Nat) (q : Nat) (hBL : BR 0 65536 (F 4) L) (hLb : L.length ≤ 65536) (hq : q + 1 < L.length) : MC l D9 cB cI cJ cG a O y_By_twoAt b_By_twoAt 2 (some .int) 1 [.ref (a 3), .int (nI q)] I F (fun v I' F' => v = some (.int (nI (tb L q * 256 + tb L (q + 1)))) ∧ I = I' ∧ F = F') := mw_mono (m_By_twoAt_gb l D9 cB cI cJ cG a O I F (nI q)) (fun v w h => by
  obtain ⟨I', F', hw, h1, h2, h3⟩ := h
  rw [bt2_L hBL hLb hq] at h1
  exact ⟨_, _, hw, h1, h2, h3⟩)
theorem m_By_putL_ms (l : Launch) (D9 : va_G) (cB cI cJ cG : ClassId) (a : Nat → Nat) (O : Nat → Int64) (I : Nat → Int32) (F : Nat → Nat → Int32) (L : List Nat) (c9 : Nat) (x : Int32) (hBL : BR c9 65536 (F 21) L) (hLl : I 13 = nI L.length) (hLb : L.length < 1000000) : MC l D9 cB cI cJ cG a O y_By_put b_By_put 2 none 1 [.ref (a 20), .int x] I F (fun v I' F' => v = none ∧ sm [13] I I' ∧ I' 13 = nI (L.length + 1) ∧ sm [21] F F' ∧ BR c9 65536 (F' 21) (L ++ [ub x])) := mw_mono (m_By_put_ms l D9 cB cI cJ cG a O I F x) (fun v w h => by
  obtain ⟨I', F', hw, h1, h2, h3⟩ := h
  subst h2 h3
  exact ⟨_, _, hw, h1, sm_up sm_rf (by decide), (uf_s.trans (by rw [hLl]; simp only [nI_1])), sm_up sm_rf (by decide), BR_eq (BR_bset hBL (by omega)) (uf_s.trans (by rw [hLl]))⟩)
theorem m_By_putTwoL_ms (l : Launch) (D9 : va_G) (cB cI cJ cG : ClassId) (a : Nat → Nat) (O : Nat → Int64) (I : Nat → Int32) (F : Nat → Nat → Int32) (L : List Nat) (c9 : Nat) (x : Int32) (hBL : BR c9 65536 (F 21) L) (hLl : I 13 = nI L.length) (hLb : L.length < 1000000) : MC l D9 cB cI cJ cG a O y_By_putTwo b_By_putTwo 2 none 2 [.ref (a 20), .int x] I F (fun v I' F' => v = none ∧ sm [13] I I' ∧ I' 13 = nI (L.length + 2) ∧ sm [21] F F' ∧ BR c9 65536 (F' 21) (L ++ b2 (un x))) := mw_mono (m_By_putTwo_ms l D9 cB cI cJ cG a O I F x) (fun v w h => by
  obtain ⟨I', F', hw, h1, h2, h3⟩ := h
  subst h2 h3
  exact ⟨_, _, hw, h1, sm_up sm_rf (by decide), (uf_s.trans (by rw [hLl]; simp only [nI_1])), sm_up sm_rf (by decide), BR_eq (BR_bp2 hBL hLb) (uf_s.trans (by rw [hLl]))⟩)
theorem m_By_putFourL_ms (l : Launch) (D9 : va_G) (cB cI cJ cG : ClassId) (a : Nat → Nat) (O : Nat → Int64) (I : Nat → Int32) (F : Nat → Nat → Int32) (L : List Nat) (c9 : Nat) (x : Int32) (hBL : BR c9 65536 (F 21) L) (hLl : I 13 = nI L.length) (hLb : L.length < 1000000) : MC l D9 cB cI cJ cG a O y_By_putFour b_By_putFour 2 none 3 [.ref (a 20), .int x] I F (fun v I' F' => v = none ∧ sm [13] I I' ∧ I' 13 = nI (L.length + 4) ∧ sm [21] F F' ∧ BR c9 65536 (F' 21) (L ++ b4 x)) := mw_mono (m_By_putFour_ms l D9 cB cI cJ cG a O I F x) (fun v w h => by
  obtain ⟨I', F', hw, h1, h2, h3⟩ := h
  subst h2 h3
  exact ⟨_, _, hw, h1, sm_up sm_rf (by decide), (uf_s.trans (by rw [hLl]; simp only [nI_1])), sm_up sm_rf (by decide), BR_eq (BR_bp4 hBL hLb) (uf_s.trans (by rw [hLl]))⟩)
theorem m_By_setTwoL_ms (l : Launch) (D9 : va_G) (cB cI cJ cG : ClassId) (a : Nat → Nat) (O : Nat → Int64) (I : Nat → Int32) (F : Nat → Nat → Int32) (L : List Nat) (c9 q : Nat) (x : Int32) (hBL : BR c9 65536 (F 21) L) (hq : q < 1000000) : MC l D9 cB cI cJ cG a O y_By_setTwo b_By_setTwo 3 none 1 [.ref (a 20), .int (nI q), .int x] I F (fun v I' F' => v = none ∧ I = I' ∧ sm [21] F F' ∧ BR c9 65536 (F' 21) ((L.set q (un x / 256 % 256)).set (q + 1) (un x % 256))) := mw_mono (m_By_setTwo_ms l D9 cB cI cJ cG a O I F (nI q) x) (fun v w h => by
  obtain ⟨I', F', hw, h1, h2, h3⟩ := h
  subst h2 h3
  exact ⟨_, _, hw, h1, rfl, sm_up sm_rf (by decide), BR_eq (BR_bset2 hBL hq) uf_s⟩)
theorem m_By_atL_ms (l : Launch) (D9 : va_G) (cB cI cJ cG : ClassId) (a : Nat → Nat) (O : Nat → Int64) (I : Nat → Int32) (F : Nat → Nat → Int32) (L : List Nat) (q : Nat) (hBL : BR 0 65536 (F 21) L) (hLb : L.length ≤ 65536) (hq : q < L.length) : MC l D9 cB cI cJ cG a O y_By_at b_By_at 2 (some .int) 0 [.ref (a 20), .int (nI q)] I F (fun v I' F' => v = some (.int (nI (tb L q))) ∧ I = I' ∧ F = F') := mw_mono (m_By_at_ms l D9 cB cI cJ cG a O I F (nI q)) (fun v w h => by
  obtain ⟨I', F', hw, h1, h2, h3⟩ := h
  rw [BR_bt hBL hq hLb] at h1
  exact ⟨_, _, hw, h1, h2, h3⟩)
theorem m_By_twoAtL_ms (l : Launch) (D9 : va_G) (cB cI cJ cG : ClassId) (a : Nat → Nat) (O : Nat → Int64) (I : Nat → Int32) (F : Nat → Nat → Int32) (L : List Nat) (q : Nat) (hBL : BR 0 65536 (F 21) L) (hLb : L.length ≤ 65536) (hq : q + 1 < L.length) : MC l D9 cB cI cJ cG a O y_By_twoAt b_By_twoAt 2 (some .int) 1 [.ref (a 20), .int (nI q)] I F (fun v I' F' => v = some (.int (nI (tb L q * 256 + tb L (q + 1)))) ∧ I = I' ∧ F = F') := mw_mono (m_By_twoAt_ms l D9 cB cI cJ cG a O I F (nI q)) (fun v w h => by
  obtain ⟨I', F', hw, h1, h2, h3⟩ := h
  rw [bt2_L hBL hLb hq] at h1
  exact ⟨_, _, hw, h1, h2, h3⟩)
theorem m_By_fourAtL_tp (l : Launch) (D9 : va_G) (cB cI cJ cG : ClassId) (a : Nat → Nat) (O : Nat → Int64) (I : Nat → Int32) (F : Nat → Nat → Int32) (L : List Nat) (q : Nat) (hBL : BR 0 65536 (F 2) L) (hLb : L.length ≤ 65536) (hq : q + 3 < L.length) : MC l D9 cB cI cJ cG a O y_By_fourAt b_By_fourAt 2 (some .int) 2 [.ref (a 1), .int (nI q)] I F (fun v I' F' => v = some (.int (i4 L q)) ∧ I = I' ∧ F = F') := mw_mono (m_By_fourAt_tp l D9 cB cI cJ cG a O I F (nI q)) (fun v w h => by
  obtain ⟨I', F', hw, h1, h2, h3⟩ := h
  rw [show nI q + 2 = nI (q + 2) from nI_add q 2, bt2_L hBL hLb (by omega), bt2_L hBL hLb (by omega)] at h1
  exact ⟨_, _, hw, h1, h2, h3⟩)
end
section
/-! NAMES ON THE TAPE -/
def tg (t : List Nat) (pos : Nat) : Nat := (tb t pos * 256 + tb t (pos + 1)) % 16384
def rch (t : List Nat) (b : Nat) (nx : Option Nat) : Nat := match nx with
  | none => b
  | some _ => t.length
/-- a name: its bytes, where it ends, how many pointers -/
def rn : Nat → List Nat → Nat → Nat → Nat → Nat → Option Nat → Option (List Nat × Nat × Nat)
  | 0, _, _, _, _, _, _ => none
  | f + 1, t, b, pos, low, sz, nx =>
    if t.length ≤ pos then none
    else if tb t pos = 0 then (if nx.getD (pos + 1) ≤ b then some ([0], nx.getD (pos + 1), 0) else none)
    else if 192 ≤ tb t pos then
      if t.length < pos + 2 ∨ rch t b nx < pos + 2 ∨ low ≤ tg t pos then none
      else (rn f t b (tg t pos) (tg t pos) sz (some (nx.getD (pos + 2)))).map (fun r => (r.1, r.2.1, r.2.2 + 1))
    else if 63 < tb t pos ∨ 255 < sz + tb t pos + 2 ∨ t.length < pos + 1 + tb t pos ∨ rch t b nx < pos + 1 + tb t pos then none
    else (rn f t b (pos + (tb t pos + 1)) low (sz + (tb t pos + 1)) nx).map (fun r => (sl9 t pos (tb t pos + 1) ++ r.1, r.2.1, r.2.2))
section RN
variable {f : Nat} {t : List Nat} {b pos low sz : Nat} {nx : Option Nat}
theorem rn_short (h : t.length ≤ pos) : rn (f + 1) t b pos low sz nx = none := by unfold rn; rw [if_pos h]
theorem rn_end (h : pos < t.length) (h0 : tb t pos = 0) : rn (f + 1) t b pos low sz nx = if nx.getD (pos + 1) ≤ b then some ([0], nx.getD (pos + 1), 0) else none := by
  conv => lhs; unfold rn
  rw [if_neg (by omega), if_pos h0]
theorem rn_ptr (h : pos < t.length) (h1 : 192 ≤ tb t pos) : rn (f + 1) t b pos low sz nx = if t.length < pos + 2 ∨ rch t b nx < pos + 2 ∨ low ≤ tg t pos then none else (rn f t b (tg t pos) (tg t pos) sz (some (nx.getD (pos + 2)))).map (fun r => (r.1, r.2.1, r.2.2 + 1)) := by
  conv => lhs; unfold rn
  rw [if_neg (by omega), if_neg (by omega), if_pos h1]
theorem rn_lab (h : pos < t.length) (h0 : ¬ tb t pos = 0) (h1 : tb t pos < 192) : rn (f + 1) t b pos low sz nx = if 63 < tb t pos ∨ 255 < sz + tb t pos + 2 ∨ t.length < pos + 1 + tb t pos ∨ rch t b nx < pos + 1 + tb t pos then none else (rn f t b (pos + (tb t pos + 1)) low (sz + (tb t pos + 1)) nx).map (fun r => (sl9 t pos (tb t pos + 1) ++ r.1, r.2.1, r.2.2)) := by
  conv => lhs; unfold rn
  rw [if_neg (by omega), if_neg h0, if_neg (by omega)]
end RN
theorem rn_id (x : Option (List Nat × Nat × Nat)) : x = x.map (fun r => ([] ++ r.1, r.2.1, 0 + r.2.2)) := by
  cases x with
  | none => rfl
  | some r => simp
theorem rn_mp {x : Option (List Nat × Nat × Nat)} {acc : List Nat} {c : Nat} : (x.map (fun r => (r.1, r.2.1, r.2.2 + 1))).map (fun r => (acc ++ r.1, r.2.1, c + r.2.2)) = x.map (fun r => (acc ++ r.1, r.2.1, (c + 1) + r.2.2)) := by
  cases x with
  | none => rfl
  | some r => simp; omega
theorem rn_ml {x : Option (List Nat × Nat × Nat)} {acc s : List Nat} {c : Nat} : (x.map (fun r => (s ++ r.1, r.2.1, r.2.2))).map (fun r => (acc ++ r.1, r.2.1, c + r.2.2)) = x.map (fun r => ((acc ++ s) ++ r.1, r.2.1, c + r.2.2)) := by
  cases x with
  | none => rfl
  | some r => simp
/-- bounds of what is read -/
theorem rn_bd : ∀ {f : Nat} {t : List Nat} {b pos low sz : Nat} {nx : Option Nat} {nm : List Nat} {e c : Nat}, rn f t b pos low sz nx = some (nm, e, c) → sz ≤ 254 → e ≤ b ∧ nm.length + sz ≤ 255 ∧ 1 ≤ nm.length ∧ c ≤ f
  | 0, _, _, _, _, _, _, _, _, _, h, _ => by cases h
  | f + 1, t, b, pos, low, sz, nx, nm, e, c, h, hz => by
    unfold rn at h
    split at h
    · cases h
    · split at h
      · split at h
        · simp only [Option.some.injEq, Prod.mk.injEq] at h
          obtain ⟨rfl, rfl, rfl⟩ := h
          exact ⟨by assumption, by simp; omega, by simp, Nat.zero_le _⟩
        · cases h
      · split at h
        · split at h
          · cases h
          · obtain ⟨⟨nm1, e1, c1⟩, h1, h2⟩ := Option.map_eq_some_iff.mp h
            simp only [Prod.mk.injEq] at h2
            obtain ⟨rfl, rfl, rfl⟩ := h2
            have := rn_bd h1 hz
            omega
        · split at h
          · cases h
          · rename_i hc
            obtain ⟨⟨nm1, e1, c1⟩, h1, h2⟩ := Option.map_eq_some_iff.mp h
            simp only [Prod.mk.injEq] at h2
            obtain ⟨rfl, rfl, rfl⟩ := h2
            have := rn_bd h1 (by omega)
            rw [List.length_append, sl9_len (by omega)]
            omega
theorem bt2_ex (f : Nat → Int32) (i : Int32) : ∃ w : Nat, w < 65536 ∧ bt2 f i = nI w := by
  unfold bt2
  have e : ∀ j : Int32, ∃ w : Nat, w < 256 ∧ bt f j = nI w := fun j => by
    unfold bt
    split
    · exact ⟨0, by decide, rfl⟩
    · split
      · exact ⟨0, by decide, rfl⟩
      · exact ⟨_, ub_lt _, ub_and _⟩
  obtain ⟨w1, h1, e1⟩ := e i
  obtain ⟨w2, h2, e2⟩ := e (i + 1)
  exact ⟨w1 * 256 + w2, by omega, by rw [e1, e2, two_nI h1 h2]⟩
theorem g_39 : (Cond.fieldLinkNest "WireMessages$Reader" (44 : Nat) "WireMessages$Bytes" "length" "I" "WireMessages") ∈ GT := gt_mem 39 (by decide +kernel) rfl
theorem g_60 : (Cond.fieldLinkNest "WireMessages$Reader" (59 : Nat) "WireMessages$Gathered" "bytes" "LWireMessages$Bytes;" "WireMessages") ∈ GT := gt_mem 60 (by decide +kernel) rfl
theorem g_122 : (Cond.fieldLink "WireMessages$Reader" (19 : Nat) "WireMessages$Reader" "fault" "I") ∈ GT := gt_mem 122 (by decide +kernel) rfl
theorem g_123 : (Cond.fieldLink "WireMessages$Reader" (23 : Nat) "WireMessages$Reader" "faultPlace" "I") ∈ GT := gt_mem 123 (by decide +kernel) rfl
theorem g_125 : (Cond.fieldLink "WireMessages$Reader" (41 : Nat) "WireMessages$Reader" "next" "I") ∈ GT := gt_mem 125 (by decide +kernel) rfl
theorem g_126 : (Cond.fieldLink "WireMessages$Reader" (26 : Nat) "WireMessages$Reader" "followed" "I") ∈ GT := gt_mem 126 (by decide +kernel) rfl
theorem g_130 : (Cond.fieldLink "WireMessages$Reader" (92 : Nat) "WireMessages$Reader" "dataStart" "I") ∈ GT := gt_mem 130 (by decide +kernel) rfl
theorem g_252 : (Cond.methodLinkNest "WireMessages$Reader" (29 : Nat) ({ cls := "WireMessages$Bytes", name := "twoAt", desc := "(I)I" } : MethodName) "WireMessages") ∈ GT := gt_mem 252 (by decide +kernel) rfl
theorem g_264 : (Cond.methodLink "WireMessages$Reader" (47 : Nat) ({ cls := "WireMessages$Reader", name := "fail", desc := "(II)Z" } : MethodName)) ∈ GT := gt_mem 264 (by decide +kernel) rfl
theorem g_266 : (Cond.instanceMethod ({ cls := "WireMessages$Reader", name := "fail", desc := "(II)Z" } : MethodName)) ∈ GT := gt_mem 266 (by decide +kernel) rfl
theorem g_267 : (Cond.code ({ cls := "WireMessages$Reader", name := "fail", desc := "(II)Z" } : MethodName) prog_7_method_2_code (3 : Nat) (Option.some FieldType.boolean)) ∈ GT := gt_mem 267 (by decide +kernel) rfl
theorem g_280 : (Cond.methodLinkNest "WireMessages$Reader" (85 : Nat) ({ cls := "WireMessages$Bytes", name := "at", desc := "(I)I" } : MethodName) "WireMessages") ∈ GT := gt_mem 280 (by decide +kernel) rfl
theorem g_281 : (Cond.methodLinkNest "WireMessages$Reader" (88 : Nat) ({ cls := "WireMessages$Bytes", name := "put", desc := "(I)V" } : MethodName) "WireMessages") ∈ GT := gt_mem 281 (by decide +kernel) rfl
theorem g_289 : (Cond.methodLink "WireMessages$Reader" (95 : Nat) ({ cls := "WireMessages$Reader", name := "isGoodPointer", desc := "(IIII)Z" } : MethodName)) ∈ GT := gt_mem 289 (by decide +kernel) rfl
theorem g_291 : (Cond.instanceMethod ({ cls := "WireMessages$Reader", name := "isGoodPointer", desc := "(IIII)Z" } : MethodName)) ∈ GT := gt_mem 291 (by decide +kernel) rfl
theorem g_292 : (Cond.code ({ cls := "WireMessages$Reader", name := "isGoodPointer", desc := "(IIII)Z" } : MethodName) prog_7_method_11_code (5 : Nat) (Option.some FieldType.boolean)) ∈ GT := gt_mem 292 (by decide +kernel) rfl
theorem g_293 : (Cond.methodLink "WireMessages$Reader" (99 : Nat) ({ cls := "WireMessages$Reader", name := "isGoodLabel", desc := "(IIIII)Z" } : MethodName)) ∈ GT := gt_mem 293 (by decide +kernel) rfl
theorem g_295 : (Cond.instanceMethod ({ cls := "WireMessages$Reader", name := "isGoodLabel", desc := "(IIIII)Z" } : MethodName)) ∈ GT := gt_mem 295 (by decide +kernel) rfl
theorem g_296 : (Cond.code ({ cls := "WireMessages$Reader", name := "isGoodLabel", desc := "(IIIII)Z" } : MethodName) prog_7_method_12_code (7 : Nat) (Option.some FieldType.boolean)) ∈ GT := gt_mem 296 (by decide +kernel) rfl
theorem g_297 : (Cond.methodLinkNest "WireMessages$Reader" (103 : Nat) ({ cls := "WireMessages$Bytes", name := "putFrom", desc := "(LWireMessages$Bytes;II)V" } : MethodName) "WireMessages") ∈ GT := gt_mem 297 (by decide +kernel) rfl
theorem g_299 : (Cond.instanceMethod ({ cls := "WireMessages$Bytes", name := "putFrom", desc := "(LWireMessages$Bytes;II)V" } : MethodName)) ∈ GT := gt_mem 299 (by decide +kernel) rfl
theorem g_300 : (Cond.code ({ cls := "WireMessages$Bytes", name := "putFrom", desc := "(LWireMessages$Bytes;II)V" } : MethodName) prog_2_method_10_code (5 : Nat) (Option.none : Option FieldType)) ∈ GT := gt_mem 300 (by decide +kernel) rfl
theorem gs_Re_fail : Cond.selects R_Re y_Re_fail y_Re_fail ∈ GT := gt_sel (q := (⟨"WireMessages$Reader", "fail", "(II)Z"⟩, 8)) (by decide +kernel)
theorem gs_Re_isGoodLabel : Cond.selects R_Re y_Re_isGoodLabel y_Re_isGoodLabel ∈ GT := gt_sel (q := (⟨"WireMessages$Reader", "isGoodLabel", "(IIIII)Z"⟩, 8)) (by decide +kernel)
theorem gs_By_putFrom : Cond.selects R_By y_By_putFrom y_By_putFrom ∈ GT := gt_sel (q := (⟨"WireMessages$Bytes", "putFrom", "(LWireMessages$Bytes;II)V"⟩, 2)) (by decide +kernel)
theorem gs_Re_isGoodPointer : Cond.selects R_Re y_Re_isGoodPointer y_Re_isGoodPointer ∈ GT := gt_sel (q := (⟨"WireMessages$Reader", "isGoodPointer", "(IIII)Z"⟩, 8)) (by decide +kernel)
theorem d_Re_fail_0 : decode b_Re_fail 0 = .ok (.aload_n 0, 1) := by decide +kernel
theorem d_Re_fail_1 : decode b_Re_fail 1 = .ok (.iload_n 1, 1) := by decide +kernel
theorem d_Re_fail_2 : decode b_Re_fail 2 = .ok (.putfield 19, 3) := by decide +kernel
theorem d_Re_fail_5 : decode b_Re_fail 5 = .ok (.aload_n 0, 1) := by decide +kernel
theorem d_Re_fail_6 : decode b_Re_fail 6 = .ok (.iload_n 2, 1) := by decide +kernel
theorem d_Re_fail_7 : decode b_Re_fail 7 = .ok (.putfield 23, 3) := by decide +kernel
theorem d_Re_fail_10 : decode b_Re_fail 10 = .ok (.iconst 0, 1) := by decide +kernel
theorem d_Re_fail_11 : decode b_Re_fail 11 = .ok (.ireturn, 1) := by decide +kernel
theorem d_Re_isGoodLabel_0 : decode b_Re_isGoodLabel 0 = .ok (.iload_n 1, 1) := by decide +kernel
theorem d_Re_isGoodLabel_1 : decode b_Re_isGoodLabel 1 = .ok (.iconst 1, 1) := by decide +kernel
theorem d_Re_isGoodLabel_2 : decode b_Re_isGoodLabel 2 = .ok (.iadd, 1) := by decide +kernel
theorem d_Re_isGoodLabel_3 : decode b_Re_isGoodLabel 3 = .ok (.iload_n 2, 1) := by decide +kernel
theorem d_Re_isGoodLabel_4 : decode b_Re_isGoodLabel 4 = .ok (.iadd, 1) := by decide +kernel
theorem d_Re_isGoodLabel_5 : decode b_Re_isGoodLabel 5 = .ok (.istore 6, 2) := by decide +kernel
theorem d_Re_isGoodLabel_7 : decode b_Re_isGoodLabel 7 = .ok (.iload_n 2, 1) := by decide +kernel
theorem d_Re_isGoodLabel_8 : decode b_Re_isGoodLabel 8 = .ok (.bipush 63, 2) := by decide +kernel
theorem d_Re_isGoodLabel_10 : decode b_Re_isGoodLabel 10 = .ok (.if_icmp .le 10, 3) := by decide +kernel
theorem d_Re_isGoodLabel_13 : decode b_Re_isGoodLabel 13 = .ok (.aload_n 0, 1) := by decide +kernel
theorem d_Re_isGoodLabel_14 : decode b_Re_isGoodLabel 14 = .ok (.iconst 2, 1) := by decide +kernel
theorem d_Re_isGoodLabel_15 : decode b_Re_isGoodLabel 15 = .ok (.iload_n 1, 1) := by decide +kernel
theorem d_Re_isGoodLabel_16 : decode b_Re_isGoodLabel 16 = .ok (.invokevirtual 47, 3) := by decide +kernel
theorem d_Re_isGoodLabel_19 : decode b_Re_isGoodLabel 19 = .ok (.ireturn, 1) := by decide +kernel
theorem d_Re_isGoodLabel_20 : decode b_Re_isGoodLabel 20 = .ok (.iload 5, 2) := by decide +kernel
theorem d_Re_isGoodLabel_22 : decode b_Re_isGoodLabel 22 = .ok (.iconst 1, 1) := by decide +kernel
theorem d_Re_isGoodLabel_23 : decode b_Re_isGoodLabel 23 = .ok (.iadd, 1) := by decide +kernel
theorem d_Re_isGoodLabel_24 : decode b_Re_isGoodLabel 24 = .ok (.iload_n 2, 1) := by decide +kernel
theorem d_Re_isGoodLabel_25 : decode b_Re_isGoodLabel 25 = .ok (.iadd, 1) := by decide +kernel
theorem d_Re_isGoodLabel_26 : decode b_Re_isGoodLabel 26 = .ok (.iconst 1, 1) := by decide +kernel
theorem d_Re_isGoodLabel_27 : decode b_Re_isGoodLabel 27 = .ok (.iadd, 1) := by decide +kernel
theorem d_Re_isGoodLabel_28 : decode b_Re_isGoodLabel 28 = .ok (.sipush 255, 3) := by decide +kernel
theorem d_Re_isGoodLabel_31 : decode b_Re_isGoodLabel 31 = .ok (.if_icmp .le 11, 3) := by decide +kernel
theorem d_Re_isGoodLabel_34 : decode b_Re_isGoodLabel 34 = .ok (.aload_n 0, 1) := by decide +kernel
theorem d_Re_isGoodLabel_35 : decode b_Re_isGoodLabel 35 = .ok (.iconst 4, 1) := by decide +kernel
theorem d_Re_isGoodLabel_36 : decode b_Re_isGoodLabel 36 = .ok (.iload 4, 2) := by decide +kernel
theorem d_Re_isGoodLabel_38 : decode b_Re_isGoodLabel 38 = .ok (.invokevirtual 47, 3) := by decide +kernel
theorem d_Re_isGoodLabel_41 : decode b_Re_isGoodLabel 41 = .ok (.ireturn, 1) := by decide +kernel
theorem d_Re_isGoodLabel_42 : decode b_Re_isGoodLabel 42 = .ok (.iload 6, 2) := by decide +kernel
theorem d_Re_isGoodLabel_44 : decode b_Re_isGoodLabel 44 = .ok (.aload_n 0, 1) := by decide +kernel
theorem d_Re_isGoodLabel_45 : decode b_Re_isGoodLabel 45 = .ok (.getfield 9, 3) := by decide +kernel
theorem d_Re_isGoodLabel_48 : decode b_Re_isGoodLabel 48 = .ok (.getfield 44, 3) := by decide +kernel
theorem d_Re_isGoodLabel_51 : decode b_Re_isGoodLabel 51 = .ok (.if_icmp .le 12, 3) := by decide +kernel
theorem d_Re_isGoodLabel_54 : decode b_Re_isGoodLabel 54 = .ok (.aload_n 0, 1) := by decide +kernel
theorem d_Re_isGoodLabel_55 : decode b_Re_isGoodLabel 55 = .ok (.iconst 1, 1) := by decide +kernel
theorem d_Re_isGoodLabel_56 : decode b_Re_isGoodLabel 56 = .ok (.iload_n 1, 1) := by decide +kernel
theorem d_Re_isGoodLabel_57 : decode b_Re_isGoodLabel 57 = .ok (.iconst 1, 1) := by decide +kernel
theorem d_Re_isGoodLabel_58 : decode b_Re_isGoodLabel 58 = .ok (.iadd, 1) := by decide +kernel
theorem d_Re_isGoodLabel_59 : decode b_Re_isGoodLabel 59 = .ok (.invokevirtual 47, 3) := by decide +kernel
theorem d_Re_isGoodLabel_62 : decode b_Re_isGoodLabel 62 = .ok (.ireturn, 1) := by decide +kernel
theorem d_Re_isGoodLabel_63 : decode b_Re_isGoodLabel 63 = .ok (.iload 6, 2) := by decide +kernel
theorem d_Re_isGoodLabel_65 : decode b_Re_isGoodLabel 65 = .ok (.iload_n 3, 1) := by decide +kernel
theorem d_Re_isGoodLabel_66 : decode b_Re_isGoodLabel 66 = .ok (.if_icmp .le 15, 3) := by decide +kernel
theorem d_Re_isGoodLabel_69 : decode b_Re_isGoodLabel 69 = .ok (.aload_n 0, 1) := by decide +kernel
theorem d_Re_isGoodLabel_70 : decode b_Re_isGoodLabel 70 = .ok (.iconst 5, 1) := by decide +kernel
theorem d_Re_isGoodLabel_71 : decode b_Re_isGoodLabel 71 = .ok (.aload_n 0, 1) := by decide +kernel
theorem d_Re_isGoodLabel_72 : decode b_Re_isGoodLabel 72 = .ok (.getfield 92, 3) := by decide +kernel
theorem d_Re_isGoodLabel_75 : decode b_Re_isGoodLabel 75 = .ok (.invokevirtual 47, 3) := by decide +kernel
theorem d_Re_isGoodLabel_78 : decode b_Re_isGoodLabel 78 = .ok (.ifCond .eq 7, 3) := by decide +kernel
theorem d_Re_isGoodLabel_81 : decode b_Re_isGoodLabel 81 = .ok (.iconst 1, 1) := by decide +kernel
theorem d_Re_isGoodLabel_82 : decode b_Re_isGoodLabel 82 = .ok (.goto 4, 3) := by decide +kernel
theorem d_Re_isGoodLabel_85 : decode b_Re_isGoodLabel 85 = .ok (.iconst 0, 1) := by decide +kernel
theorem d_Re_isGoodLabel_86 : decode b_Re_isGoodLabel 86 = .ok (.ireturn, 1) := by decide +kernel
theorem d_Re_isGoodPointer_0 : decode b_Re_isGoodPointer 0 = .ok (.iload_n 1, 1) := by decide +kernel
theorem d_Re_isGoodPointer_1 : decode b_Re_isGoodPointer 1 = .ok (.iconst 2, 1) := by decide +kernel
theorem d_Re_isGoodPointer_2 : decode b_Re_isGoodPointer 2 = .ok (.iadd, 1) := by decide +kernel
theorem d_Re_isGoodPointer_3 : decode b_Re_isGoodPointer 3 = .ok (.aload_n 0, 1) := by decide +kernel
theorem d_Re_isGoodPointer_4 : decode b_Re_isGoodPointer 4 = .ok (.getfield 9, 3) := by decide +kernel
theorem d_Re_isGoodPointer_7 : decode b_Re_isGoodPointer 7 = .ok (.getfield 44, 3) := by decide +kernel
theorem d_Re_isGoodPointer_10 : decode b_Re_isGoodPointer 10 = .ok (.if_icmp .le 10, 3) := by decide +kernel
theorem d_Re_isGoodPointer_13 : decode b_Re_isGoodPointer 13 = .ok (.aload_n 0, 1) := by decide +kernel
theorem d_Re_isGoodPointer_14 : decode b_Re_isGoodPointer 14 = .ok (.iconst 1, 1) := by decide +kernel
theorem d_Re_isGoodPointer_15 : decode b_Re_isGoodPointer 15 = .ok (.iload_n 1, 1) := by decide +kernel
theorem d_Re_isGoodPointer_16 : decode b_Re_isGoodPointer 16 = .ok (.invokevirtual 47, 3) := by decide +kernel
theorem d_Re_isGoodPointer_19 : decode b_Re_isGoodPointer 19 = .ok (.ireturn, 1) := by decide +kernel
theorem d_Re_isGoodPointer_20 : decode b_Re_isGoodPointer 20 = .ok (.iload_n 1, 1) := by decide +kernel
theorem d_Re_isGoodPointer_21 : decode b_Re_isGoodPointer 21 = .ok (.iconst 2, 1) := by decide +kernel
theorem d_Re_isGoodPointer_22 : decode b_Re_isGoodPointer 22 = .ok (.iadd, 1) := by decide +kernel
theorem d_Re_isGoodPointer_23 : decode b_Re_isGoodPointer 23 = .ok (.iload_n 2, 1) := by decide +kernel
theorem d_Re_isGoodPointer_24 : decode b_Re_isGoodPointer 24 = .ok (.if_icmp .le 13, 3) := by decide +kernel
theorem d_Re_isGoodPointer_27 : decode b_Re_isGoodPointer 27 = .ok (.aload_n 0, 1) := by decide +kernel
theorem d_Re_isGoodPointer_28 : decode b_Re_isGoodPointer 28 = .ok (.iconst 5, 1) := by decide +kernel
theorem d_Re_isGoodPointer_29 : decode b_Re_isGoodPointer 29 = .ok (.aload_n 0, 1) := by decide +kernel
theorem d_Re_isGoodPointer_30 : decode b_Re_isGoodPointer 30 = .ok (.getfield 92, 3) := by decide +kernel
theorem d_Re_isGoodPointer_33 : decode b_Re_isGoodPointer 33 = .ok (.invokevirtual 47, 3) := by decide +kernel
theorem d_Re_isGoodPointer_36 : decode b_Re_isGoodPointer 36 = .ok (.ireturn, 1) := by decide +kernel
theorem d_Re_isGoodPointer_37 : decode b_Re_isGoodPointer 37 = .ok (.iload_n 3, 1) := by decide +kernel
theorem d_Re_isGoodPointer_38 : decode b_Re_isGoodPointer 38 = .ok (.iload 4, 2) := by decide +kernel
theorem d_Re_isGoodPointer_40 : decode b_Re_isGoodPointer 40 = .ok (.if_icmp .lt 12, 3) := by decide +kernel
theorem d_Re_isGoodPointer_43 : decode b_Re_isGoodPointer 43 = .ok (.aload_n 0, 1) := by decide +kernel
theorem d_Re_isGoodPointer_44 : decode b_Re_isGoodPointer 44 = .ok (.iconst 3, 1) := by decide +kernel
theorem d_Re_isGoodPointer_45 : decode b_Re_isGoodPointer 45 = .ok (.iload_n 1, 1) := by decide +kernel
theorem d_Re_isGoodPointer_46 : decode b_Re_isGoodPointer 46 = .ok (.invokevirtual 47, 3) := by decide +kernel
theorem d_Re_isGoodPointer_49 : decode b_Re_isGoodPointer 49 = .ok (.ifCond .eq 7, 3) := by decide +kernel
theorem d_Re_isGoodPointer_52 : decode b_Re_isGoodPointer 52 = .ok (.iconst 1, 1) := by decide +kernel
theorem d_Re_isGoodPointer_53 : decode b_Re_isGoodPointer 53 = .ok (.goto 4, 3) := by decide +kernel
theorem d_Re_isGoodPointer_56 : decode b_Re_isGoodPointer 56 = .ok (.iconst 0, 1) := by decide +kernel
theorem d_Re_isGoodPointer_57 : decode b_Re_isGoodPointer 57 = .ok (.ireturn, 1) := by decide +kernel
theorem d_Re_takeName_0 : decode b_Re_takeName 0 = .ok (.iload_n 1, 1) := by decide +kernel
theorem d_Re_takeName_1 : decode b_Re_takeName 1 = .ok (.istore_n 3, 1) := by decide +kernel
theorem d_Re_takeName_2 : decode b_Re_takeName 2 = .ok (.iload_n 1, 1) := by decide +kernel
theorem d_Re_takeName_3 : decode b_Re_takeName 3 = .ok (.istore 4, 2) := by decide +kernel
theorem d_Re_takeName_5 : decode b_Re_takeName 5 = .ok (.iconst 0, 1) := by decide +kernel
theorem d_Re_takeName_6 : decode b_Re_takeName 6 = .ok (.istore 5, 2) := by decide +kernel
theorem d_Re_takeName_8 : decode b_Re_takeName 8 = .ok (.iconst 0, 1) := by decide +kernel
theorem d_Re_takeName_9 : decode b_Re_takeName 9 = .ok (.istore 6, 2) := by decide +kernel
theorem d_Re_takeName_11 : decode b_Re_takeName 11 = .ok (.iconst 0, 1) := by decide +kernel
theorem d_Re_takeName_12 : decode b_Re_takeName 12 = .ok (.istore 7, 2) := by decide +kernel
theorem d_Re_takeName_14 : decode b_Re_takeName 14 = .ok (.iload 7, 2) := by decide +kernel
theorem d_Re_takeName_16 : decode b_Re_takeName 16 = .ok (.sipush 16639, 3) := by decide +kernel
theorem d_Re_takeName_19 : decode b_Re_takeName 19 = .ok (.if_icmp .ge 248, 3) := by decide +kernel
theorem d_Re_takeName_22 : decode b_Re_takeName 22 = .ok (.iload_n 3, 1) := by decide +kernel
theorem d_Re_takeName_23 : decode b_Re_takeName 23 = .ok (.aload_n 0, 1) := by decide +kernel
theorem d_Re_takeName_24 : decode b_Re_takeName 24 = .ok (.getfield 9, 3) := by decide +kernel
theorem d_Re_takeName_27 : decode b_Re_takeName 27 = .ok (.getfield 44, 3) := by decide +kernel
theorem d_Re_takeName_30 : decode b_Re_takeName 30 = .ok (.if_icmp .lt 10, 3) := by decide +kernel
theorem d_Re_takeName_33 : decode b_Re_takeName 33 = .ok (.aload_n 0, 1) := by decide +kernel
theorem d_Re_takeName_34 : decode b_Re_takeName 34 = .ok (.iconst 1, 1) := by decide +kernel
theorem d_Re_takeName_35 : decode b_Re_takeName 35 = .ok (.iload_n 3, 1) := by decide +kernel
theorem d_Re_takeName_36 : decode b_Re_takeName 36 = .ok (.invokevirtual 47, 3) := by decide +kernel
theorem d_Re_takeName_39 : decode b_Re_takeName 39 = .ok (.ireturn, 1) := by decide +kernel
theorem d_Re_takeName_40 : decode b_Re_takeName 40 = .ok (.aload_n 0, 1) := by decide +kernel
theorem d_Re_takeName_41 : decode b_Re_takeName 41 = .ok (.getfield 9, 3) := by decide +kernel
theorem d_Re_takeName_44 : decode b_Re_takeName 44 = .ok (.iload_n 3, 1) := by decide +kernel
theorem d_Re_takeName_45 : decode b_Re_takeName 45 = .ok (.invokevirtual 85, 3) := by decide +kernel
theorem d_Re_takeName_48 : decode b_Re_takeName 48 = .ok (.istore 8, 2) := by decide +kernel
theorem d_Re_takeName_50 : decode b_Re_takeName 50 = .ok (.iload 6, 2) := by decide +kernel
theorem d_Re_takeName_52 : decode b_Re_takeName 52 = .ok (.ifCond .eq 13, 3) := by decide +kernel
theorem d_Re_takeName_55 : decode b_Re_takeName 55 = .ok (.aload_n 0, 1) := by decide +kernel
theorem d_Re_takeName_56 : decode b_Re_takeName 56 = .ok (.getfield 9, 3) := by decide +kernel
theorem d_Re_takeName_59 : decode b_Re_takeName 59 = .ok (.getfield 44, 3) := by decide +kernel
theorem d_Re_takeName_62 : decode b_Re_takeName 62 = .ok (.goto 4, 3) := by decide +kernel
theorem d_Re_takeName_65 : decode b_Re_takeName 65 = .ok (.iload_n 2, 1) := by decide +kernel
theorem d_Re_takeName_66 : decode b_Re_takeName 66 = .ok (.istore 9, 2) := by decide +kernel
theorem d_Re_takeName_68 : decode b_Re_takeName 68 = .ok (.iload 8, 2) := by decide +kernel
theorem d_Re_takeName_70 : decode b_Re_takeName 70 = .ok (.ifCond .ne 59, 3) := by decide +kernel
theorem d_Re_takeName_73 : decode b_Re_takeName 73 = .ok (.aload_n 0, 1) := by decide +kernel
theorem d_Re_takeName_74 : decode b_Re_takeName 74 = .ok (.getfield 15, 3) := by decide +kernel
theorem d_Re_takeName_77 : decode b_Re_takeName 77 = .ok (.getfield 59, 3) := by decide +kernel
theorem d_Re_takeName_80 : decode b_Re_takeName 80 = .ok (.iconst 0, 1) := by decide +kernel
theorem d_Re_takeName_81 : decode b_Re_takeName 81 = .ok (.invokevirtual 88, 3) := by decide +kernel
theorem d_Re_takeName_84 : decode b_Re_takeName 84 = .ok (.aload_n 0, 1) := by decide +kernel
theorem d_Re_takeName_85 : decode b_Re_takeName 85 = .ok (.iload 6, 2) := by decide +kernel
theorem d_Re_takeName_87 : decode b_Re_takeName 87 = .ok (.ifCond .eq 10, 3) := by decide +kernel
theorem d_Re_takeName_90 : decode b_Re_takeName 90 = .ok (.aload_n 0, 1) := by decide +kernel
theorem d_Re_takeName_91 : decode b_Re_takeName 91 = .ok (.getfield 41, 3) := by decide +kernel
theorem d_Re_takeName_94 : decode b_Re_takeName 94 = .ok (.goto 6, 3) := by decide +kernel
theorem d_Re_takeName_97 : decode b_Re_takeName 97 = .ok (.iload_n 3, 1) := by decide +kernel
theorem d_Re_takeName_98 : decode b_Re_takeName 98 = .ok (.iconst 1, 1) := by decide +kernel
theorem d_Re_takeName_99 : decode b_Re_takeName 99 = .ok (.iadd, 1) := by decide +kernel
theorem d_Re_takeName_100 : decode b_Re_takeName 100 = .ok (.putfield 41, 3) := by decide +kernel
theorem d_Re_takeName_103 : decode b_Re_takeName 103 = .ok (.aload_n 0, 1) := by decide +kernel
theorem d_Re_takeName_104 : decode b_Re_takeName 104 = .ok (.getfield 41, 3) := by decide +kernel
theorem d_Re_takeName_107 : decode b_Re_takeName 107 = .ok (.iload_n 2, 1) := by decide +kernel
theorem d_Re_takeName_108 : decode b_Re_takeName 108 = .ok (.if_icmp .le 15, 3) := by decide +kernel
theorem d_Re_takeName_111 : decode b_Re_takeName 111 = .ok (.aload_n 0, 1) := by decide +kernel
theorem d_Re_takeName_112 : decode b_Re_takeName 112 = .ok (.iconst 5, 1) := by decide +kernel
theorem d_Re_takeName_113 : decode b_Re_takeName 113 = .ok (.aload_n 0, 1) := by decide +kernel
theorem d_Re_takeName_114 : decode b_Re_takeName 114 = .ok (.getfield 92, 3) := by decide +kernel
theorem d_Re_takeName_117 : decode b_Re_takeName 117 = .ok (.invokevirtual 47, 3) := by decide +kernel
theorem d_Re_takeName_120 : decode b_Re_takeName 120 = .ok (.ifCond .eq 7, 3) := by decide +kernel
theorem d_Re_takeName_123 : decode b_Re_takeName 123 = .ok (.iconst 1, 1) := by decide +kernel
theorem d_Re_takeName_124 : decode b_Re_takeName 124 = .ok (.goto 4, 3) := by decide +kernel
theorem d_Re_takeName_127 : decode b_Re_takeName 127 = .ok (.iconst 0, 1) := by decide +kernel
theorem d_Re_takeName_128 : decode b_Re_takeName 128 = .ok (.ireturn, 1) := by decide +kernel
theorem d_Re_takeName_129 : decode b_Re_takeName 129 = .ok (.iload 8, 2) := by decide +kernel
theorem d_Re_takeName_131 : decode b_Re_takeName 131 = .ok (.sipush 192, 3) := by decide +kernel
theorem d_Re_takeName_134 : decode b_Re_takeName 134 = .ok (.if_icmp .lt 75, 3) := by decide +kernel
theorem d_Re_takeName_137 : decode b_Re_takeName 137 = .ok (.aload_n 0, 1) := by decide +kernel
theorem d_Re_takeName_138 : decode b_Re_takeName 138 = .ok (.getfield 9, 3) := by decide +kernel
theorem d_Re_takeName_141 : decode b_Re_takeName 141 = .ok (.iload_n 3, 1) := by decide +kernel
theorem d_Re_takeName_142 : decode b_Re_takeName 142 = .ok (.invokevirtual 29, 3) := by decide +kernel
theorem d_Re_takeName_145 : decode b_Re_takeName 145 = .ok (.sipush 16383, 3) := by decide +kernel
theorem d_Re_takeName_148 : decode b_Re_takeName 148 = .ok (.iand, 1) := by decide +kernel
theorem d_Re_takeName_149 : decode b_Re_takeName 149 = .ok (.istore 10, 2) := by decide +kernel
theorem d_Re_takeName_151 : decode b_Re_takeName 151 = .ok (.aload_n 0, 1) := by decide +kernel
theorem d_Re_takeName_152 : decode b_Re_takeName 152 = .ok (.iload_n 3, 1) := by decide +kernel
theorem d_Re_takeName_153 : decode b_Re_takeName 153 = .ok (.iload 9, 2) := by decide +kernel
theorem d_Re_takeName_155 : decode b_Re_takeName 155 = .ok (.iload 10, 2) := by decide +kernel
theorem d_Re_takeName_157 : decode b_Re_takeName 157 = .ok (.iload 4, 2) := by decide +kernel
theorem d_Re_takeName_159 : decode b_Re_takeName 159 = .ok (.invokevirtual 95, 3) := by decide +kernel
theorem d_Re_takeName_162 : decode b_Re_takeName 162 = .ok (.ifCond .ne 5, 3) := by decide +kernel
theorem d_Re_takeName_165 : decode b_Re_takeName 165 = .ok (.iconst 0, 1) := by decide +kernel
theorem d_Re_takeName_166 : decode b_Re_takeName 166 = .ok (.ireturn, 1) := by decide +kernel
theorem d_Re_takeName_167 : decode b_Re_takeName 167 = .ok (.aload_n 0, 1) := by decide +kernel
theorem d_Re_takeName_168 : decode b_Re_takeName 168 = .ok (.iload 6, 2) := by decide +kernel
theorem d_Re_takeName_170 : decode b_Re_takeName 170 = .ok (.ifCond .eq 10, 3) := by decide +kernel
theorem d_Re_takeName_173 : decode b_Re_takeName 173 = .ok (.aload_n 0, 1) := by decide +kernel
theorem d_Re_takeName_174 : decode b_Re_takeName 174 = .ok (.getfield 41, 3) := by decide +kernel
theorem d_Re_takeName_177 : decode b_Re_takeName 177 = .ok (.goto 6, 3) := by decide +kernel
theorem d_Re_takeName_180 : decode b_Re_takeName 180 = .ok (.iload_n 3, 1) := by decide +kernel
theorem d_Re_takeName_181 : decode b_Re_takeName 181 = .ok (.iconst 2, 1) := by decide +kernel
theorem d_Re_takeName_182 : decode b_Re_takeName 182 = .ok (.iadd, 1) := by decide +kernel
theorem d_Re_takeName_183 : decode b_Re_takeName 183 = .ok (.putfield 41, 3) := by decide +kernel
theorem d_Re_takeName_186 : decode b_Re_takeName 186 = .ok (.iconst 1, 1) := by decide +kernel
theorem d_Re_takeName_187 : decode b_Re_takeName 187 = .ok (.istore 6, 2) := by decide +kernel
theorem d_Re_takeName_189 : decode b_Re_takeName 189 = .ok (.aload_n 0, 1) := by decide +kernel
theorem d_Re_takeName_190 : decode b_Re_takeName 190 = .ok (.dup, 1) := by decide +kernel
theorem d_Re_takeName_191 : decode b_Re_takeName 191 = .ok (.getfield 26, 3) := by decide +kernel
theorem d_Re_takeName_194 : decode b_Re_takeName 194 = .ok (.iconst 1, 1) := by decide +kernel
theorem d_Re_takeName_195 : decode b_Re_takeName 195 = .ok (.iadd, 1) := by decide +kernel
theorem d_Re_takeName_196 : decode b_Re_takeName 196 = .ok (.putfield 26, 3) := by decide +kernel
theorem d_Re_takeName_199 : decode b_Re_takeName 199 = .ok (.iload 10, 2) := by decide +kernel
theorem d_Re_takeName_201 : decode b_Re_takeName 201 = .ok (.istore 4, 2) := by decide +kernel
theorem d_Re_takeName_203 : decode b_Re_takeName 203 = .ok (.iload 10, 2) := by decide +kernel
theorem d_Re_takeName_205 : decode b_Re_takeName 205 = .ok (.istore_n 3, 1) := by decide +kernel
theorem d_Re_takeName_206 : decode b_Re_takeName 206 = .ok (.goto 55, 3) := by decide +kernel
theorem d_Re_takeName_209 : decode b_Re_takeName 209 = .ok (.aload_n 0, 1) := by decide +kernel
theorem d_Re_takeName_210 : decode b_Re_takeName 210 = .ok (.iload_n 3, 1) := by decide +kernel
theorem d_Re_takeName_211 : decode b_Re_takeName 211 = .ok (.iload 8, 2) := by decide +kernel
theorem d_Re_takeName_213 : decode b_Re_takeName 213 = .ok (.iload 9, 2) := by decide +kernel
theorem d_Re_takeName_215 : decode b_Re_takeName 215 = .ok (.iload_n 1, 1) := by decide +kernel
theorem d_Re_takeName_216 : decode b_Re_takeName 216 = .ok (.iload 5, 2) := by decide +kernel
theorem d_Re_takeName_218 : decode b_Re_takeName 218 = .ok (.invokevirtual 99, 3) := by decide +kernel
theorem d_Re_takeName_221 : decode b_Re_takeName 221 = .ok (.ifCond .ne 5, 3) := by decide +kernel
theorem d_Re_takeName_224 : decode b_Re_takeName 224 = .ok (.iconst 0, 1) := by decide +kernel
theorem d_Re_takeName_225 : decode b_Re_takeName 225 = .ok (.ireturn, 1) := by decide +kernel
theorem d_Re_takeName_226 : decode b_Re_takeName 226 = .ok (.aload_n 0, 1) := by decide +kernel
theorem d_Re_takeName_227 : decode b_Re_takeName 227 = .ok (.getfield 15, 3) := by decide +kernel
theorem d_Re_takeName_230 : decode b_Re_takeName 230 = .ok (.getfield 59, 3) := by decide +kernel
theorem d_Re_takeName_233 : decode b_Re_takeName 233 = .ok (.aload_n 0, 1) := by decide +kernel
theorem d_Re_takeName_234 : decode b_Re_takeName 234 = .ok (.getfield 9, 3) := by decide +kernel
theorem d_Re_takeName_237 : decode b_Re_takeName 237 = .ok (.iload_n 3, 1) := by decide +kernel
theorem d_Re_takeName_238 : decode b_Re_takeName 238 = .ok (.iload 8, 2) := by decide +kernel
theorem d_Re_takeName_240 : decode b_Re_takeName 240 = .ok (.iconst 1, 1) := by decide +kernel
theorem d_Re_takeName_241 : decode b_Re_takeName 241 = .ok (.iadd, 1) := by decide +kernel
theorem d_Re_takeName_242 : decode b_Re_takeName 242 = .ok (.invokevirtual 103, 3) := by decide +kernel
theorem d_Re_takeName_245 : decode b_Re_takeName 245 = .ok (.iload 5, 2) := by decide +kernel
theorem d_Re_takeName_247 : decode b_Re_takeName 247 = .ok (.iload 8, 2) := by decide +kernel
theorem d_Re_takeName_249 : decode b_Re_takeName 249 = .ok (.iconst 1, 1) := by decide +kernel
theorem d_Re_takeName_250 : decode b_Re_takeName 250 = .ok (.iadd, 1) := by decide +kernel
theorem d_Re_takeName_251 : decode b_Re_takeName 251 = .ok (.iadd, 1) := by decide +kernel
theorem d_Re_takeName_252 : decode b_Re_takeName 252 = .ok (.istore 5, 2) := by decide +kernel
theorem d_Re_takeName_254 : decode b_Re_takeName 254 = .ok (.iload_n 3, 1) := by decide +kernel
theorem d_Re_takeName_255 : decode b_Re_takeName 255 = .ok (.iload 8, 2) := by decide +kernel
theorem d_Re_takeName_257 : decode b_Re_takeName 257 = .ok (.iconst 1, 1) := by decide +kernel
theorem d_Re_takeName_258 : decode b_Re_takeName 258 = .ok (.iadd, 1) := by decide +kernel
theorem d_Re_takeName_259 : decode b_Re_takeName 259 = .ok (.iadd, 1) := by decide +kernel
theorem d_Re_takeName_260 : decode b_Re_takeName 260 = .ok (.istore_n 3, 1) := by decide +kernel
theorem d_Re_takeName_261 : decode b_Re_takeName 261 = .ok (.iinc 7 1, 3) := by decide +kernel
theorem d_Re_takeName_264 : decode b_Re_takeName 264 = .ok (.goto (-250), 3) := by decide +kernel
theorem d_Re_takeName_267 : decode b_Re_takeName 267 = .ok (.aload_n 0, 1) := by decide +kernel
theorem d_Re_takeName_268 : decode b_Re_takeName 268 = .ok (.iconst 3, 1) := by decide +kernel
theorem d_Re_takeName_269 : decode b_Re_takeName 269 = .ok (.iload_n 3, 1) := by decide +kernel
theorem d_Re_takeName_270 : decode b_Re_takeName 270 = .ok (.invokevirtual 47, 3) := by decide +kernel
theorem d_Re_takeName_273 : decode b_Re_takeName 273 = .ok (.ireturn, 1) := by decide +kernel
set_option maxHeartbeats 4000000 in
set_option maxRecDepth 100000 in
/-- Reader.fail -/
theorem m_Re_fail (l : Launch) (D9 : va_G) (cB cI cJ cG : ClassId) (a : Nat → Nat) (O : Nat → Int64) (I : Nat → Int32) (F : Nat → Nat → Int32) (x y : Int32) : MC l D9 cB cI cJ cG a O y_Re_fail b_Re_fail 3 (some .boolean) 0 [.ref (a 17), .int (x), .int (y)] I F (fun v I' F' => v = some (.int (nI 0)) ∧ sm [4, 5] I I' ∧ I' 4 = x ∧ F = F') := by
  refine mc_of (by decide) (Nat.le_of_ble_eq_true rfl) ?_
  intro p e s m below meth c ls A0 Q C0 hP hD hA hS hl hret
  obtain ⟨hx, hb, hml, hr, hlocks, hown, hts, hK⟩ := id C0
  have hl : lv_has ls 3 [(0, .ref (a 17)), (1, .int (x)), (2, .int (y))] := hl
  refine lv_aload_n hx hb d_Re_fail_0 rfl (lv_at hl 0 rfl) ?_
  refine lv_iload_n hx hb d_Re_fail_1 rfl (lv_at hl 1 rfl) ?_
  refine va_put (D := D9) (ty := .int) (ci := 4) (C := R_Re) (T := F_Re) (N := 8) hx hb hts i_Re t_Re t_Re_ok n_Re hown hK hP hD hS 17 ww_17 rfl 2 (by decide) (hts _ g_122) (fun _ h9 => h9) rfl (by decide +kernel) rfl rfl (Nat.le_of_ble_eq_true rfl) d_Re_fail_2 (fun H locs hP hD hS => ?_)
  obtain ⟨I1, aI1, sI1, hP, hD⟩ := fx (P := fun z => va_P D9 cls9 (WW a cB cI cJ cG z _ O) H ∧ va_D A0 (WW a cB cI cJ cG z _ O)) ⟨wp_4 hP, wd_4 hD⟩
  refine lv_aload_n hx hb d_Re_fail_5 rfl (lv_at hl 0 rfl) ?_
  refine lv_iload_n hx hb d_Re_fail_6 rfl (lv_at hl 2 rfl) ?_
  refine va_put (D := D9) (ty := .int) (ci := 4) (C := R_Re) (T := F_Re) (N := 8) hx hb hts i_Re t_Re t_Re_ok n_Re hown hK hP hD hS 17 ww_17 rfl 3 (by decide) (hts _ g_123) (fun _ h9 => h9) rfl (by decide +kernel) rfl rfl (Nat.le_of_ble_eq_true rfl) d_Re_fail_7 (fun H locs hP hD hS => ?_)
  obtain ⟨I2, aI2, sI2, hP, hD⟩ := fx (P := fun z => va_P D9 cls9 (WW a cB cI cJ cG z _ O) H ∧ va_D A0 (WW a cB cI cJ cG z _ O)) ⟨wp_5 hP, wd_5 hD⟩
  refine lv_iconst (v := 0) hx hb d_Re_fail_10 (by decide) ?_
  refine lv_topq (y := nI 0) (rfl) ?_
  exact hret _ _ _ _ _ _ _ hS hP hD d_Re_fail_11 (nr_z (Or.inl rfl)) (⟨rfl, (sm_tr (sm_mo sI1 (by decide)) (sm_mo sI2 (by decide))), ((sI2 4 (by decide)).trans aI1), rfl⟩)
set_option maxHeartbeats 4000000 in
set_option maxRecDepth 100000 in
/-- Reader.isGoodPointer -/
theorem m_Re_isGoodPointer (l : Launch) (D9 : va_G) (cB cI cJ cG : ClassId) (a : Nat → Nat) (O : Nat → Int64) (I : Nat → Int32) (F : Nat → Nat → Int32) (t : List Nat) (hT2 : I 2 = nI t.length) (htl : t.length ≤ 65536) (pos rc tgt low : Nat) (h1 : pos < 1000000) (h2 : rc < 1000000) (h3 : tgt < 1000000) (h4 : low < 1000000) : MC l D9 cB cI cJ cG a O y_Re_isGoodPointer b_Re_isGoodPointer 5 (some .boolean) 1 [.ref (a 17), .int (nI pos), .int (nI rc), .int (nI tgt), .int (nI low)] I F (fun v I' F' => ((pos + 2 ≤ t.length ∧ pos + 2 ≤ rc ∧ tgt < low) ∧ v = some (.int (nI 1)) ∧ I = I' ∧ F = F') ∨ (¬ (pos + 2 ≤ t.length ∧ pos + 2 ≤ rc ∧ tgt < low) ∧ v = some (.int (nI 0)) ∧ sm [4, 5] I I' ∧ ¬ I' 4 = 0 ∧ F = F')) := by
  refine mc_of (by decide) (Nat.le_of_ble_eq_true rfl) ?_
  intro p e s m below meth c ls A0 Q C0 hP hD hA hS hl hret
  obtain ⟨hx, hb, hml, hr, hlocks, hown, hts, hK⟩ := id C0
  have hl : lv_has ls 5 [(0, .ref (a 17)), (1, .int (nI pos)), (2, .int (nI rc)), (3, .int (nI tgt)), (4, .int (nI low))] := hl
  refine lv_iload_n hx hb d_Re_isGoodPointer_0 rfl (lv_at hl 1 rfl) ?_
  refine lv_iconst (v := 2) hx hb d_Re_isGoodPointer_1 (by decide) ?_
  refine lv_topq (y := nI 2) (rfl) ?_
  refine lv_iadd hx hb d_Re_isGoodPointer_2 ?_
  refine lv_topq (y := nI (pos + 2)) (nI_add _ _) ?_
  refine lv_aload_n hx hb d_Re_isGoodPointer_3 rfl (lv_at hl 0 rfl) ?_
  refine va_get (D := D9) (ci := 4) (C := R_Re) (T := F_Re) (N := 8) hx hb hts i_Re hown hK hP 17 ww_17 rfl 0 (by decide) (hts _ g_120) (fun _ h9 => h9) rfl d_Re_isGoodPointer_4 ?_
  refine va_getN (D := D9) (ci := 0) (C := R_By) (T := F_By) (N := 2) hx hb hts i_By hown hK hP 1 ww_1 rfl 1 (by decide) (hts _ g_39) (fun _ h9 => h9) rfl d_Re_isGoodPointer_7 ?_
  refine lv_topq (y := nI t.length) (hT2) ?_
  refine lv_icmp_le (tgt := 20) hx hb d_Re_isGoodPointer_10 (by decide) (fun c1 => ?_) (fun c1 => ?_)
  · have c1 : pos + 2 ≤ t.length := (nI_leI (a := pos + 2) (b := t.length) (by omega) (by omega)).mp c1
    refine lv_iload_n hx hb d_Re_isGoodPointer_20 rfl (lv_at hl 1 rfl) ?_
    refine lv_iconst (v := 2) hx hb d_Re_isGoodPointer_21 (by decide) ?_
    refine lv_topq (y := nI 2) (rfl) ?_
    refine lv_iadd hx hb d_Re_isGoodPointer_22 ?_
    refine lv_topq (y := nI (pos + 2)) (nI_add _ _) ?_
    refine lv_iload_n hx hb d_Re_isGoodPointer_23 rfl (lv_at hl 2 rfl) ?_
    refine lv_icmp_le (tgt := 37) hx hb d_Re_isGoodPointer_24 (by decide) (fun c2 => ?_) (fun c2 => ?_)
    · have c2 : pos + 2 ≤ rc := (nI_leI (a := pos + 2) (b := rc) (by omega) (by omega)).mp c2
      refine lv_iload_n hx hb d_Re_isGoodPointer_37 rfl (lv_at hl 3 rfl) ?_
      refine lv_iload hx hb d_Re_isGoodPointer_38 (lv_at hl 4 rfl) ?_
      refine lv_icmp_lt (tgt := 52) hx hb d_Re_isGoodPointer_40 (by decide) (fun c3 => ?_) (fun c3 => ?_)
      · have c3 : tgt < low := (nI_ltI (a := tgt) (b := low) (by omega) (by omega)).mp c3
        refine lv_iconst (v := 1) hx hb d_Re_isGoodPointer_52 (by decide) ?_
        refine lv_topq (y := nI 1) (rfl) ?_
        refine lv_goto (tgt := 57) hx hb d_Re_isGoodPointer_53 (by decide) ?_
        exact hret _ _ _ _ _ _ _ hS hP hD d_Re_isGoodPointer_57 (nr_z (Or.inr rfl)) (Or.inl ⟨(show pos + 2 ≤ t.length ∧ pos + 2 ≤ rc ∧ tgt < low by omega), rfl, rfl, rfl⟩)
      · have c3 : ¬ (tgt < low) := fun z9 => c3 ((nI_ltI (a := tgt) (b := low) (by omega) (by omega)).mpr z9)
        refine lv_aload_n hx hb d_Re_isGoodPointer_43 rfl (lv_at hl 0 rfl) ?_
        refine lv_iconst (v := 3) hx hb d_Re_isGoodPointer_44 (by decide) ?_
        refine lv_topq (y := nI 3) (rfl) ?_
        refine lv_iload_n hx hb d_Re_isGoodPointer_45 rfl (lv_at hl 1 rfl) ?_
        refine mw_cV (ci := 4) (k := 17) C0 (m_Re_fail l D9 cB cI cJ cG a O _ _ (nI 3) _) g_267 g_4 g_264 g_266 gs_Re_fail ⟨by decide +kernel, by decide +kernel, show Option.map (fun d => d.parameters.length) (parseMethodDescriptor y_Re_fail.desc) = some 2 by decide +kernel⟩ ⟨by decide, by decide⟩ rfl rfl hP hD hS hA rfl ww_17 hl.1 (Nat.le_of_ble_eq_true rfl) rfl d_Re_isGoodPointer_46 ⟨by decide, by decide⟩ (fun v9 w9 H locs hq hP hD hS => ?_)
        obtain ⟨I4, F5, hw9, q6⟩ := hq
        subst hw9
        obtain ⟨rfl, sI4, zI4, rfl⟩ := q6
        refine lv_if_eq (tgt := 56) hx hb d_Re_isGoodPointer_49 (by decide) (fun c7 => ?_) (fun c7 => ?_)
        · refine lv_iconst (v := 0) hx hb d_Re_isGoodPointer_56 (by decide) ?_
          refine lv_topq (y := nI 0) (rfl) ?_
          exact hret _ _ _ _ _ _ _ hS hP hD d_Re_isGoodPointer_57 (nr_z (Or.inl rfl)) (Or.inr ⟨(show ¬ (pos + 2 ≤ t.length ∧ pos + 2 ≤ rc ∧ tgt < low) by omega), rfl, (sm_mo sI4 (by decide)), (by rw [zI4]; decide), rfl⟩)
        · exact absurd c7 (by decide)
    · have c2 : ¬ (pos + 2 ≤ rc) := fun z9 => c2 ((nI_leI (a := pos + 2) (b := rc) (by omega) (by omega)).mpr z9)
      refine lv_aload_n hx hb d_Re_isGoodPointer_27 rfl (lv_at hl 0 rfl) ?_
      refine lv_iconst (v := 5) hx hb d_Re_isGoodPointer_28 (by decide) ?_
      refine lv_topq (y := nI 5) (rfl) ?_
      refine lv_aload_n hx hb d_Re_isGoodPointer_29 rfl (lv_at hl 0 rfl) ?_
      refine va_get (D := D9) (ci := 4) (C := R_Re) (T := F_Re) (N := 8) hx hb hts i_Re hown hK hP 17 ww_17 rfl 7 (by decide) (hts _ g_130) (fun _ h9 => h9) rfl d_Re_isGoodPointer_30 ?_
      refine mw_cV (ci := 4) (k := 17) C0 (m_Re_fail l D9 cB cI cJ cG a O _ _ (nI 5) _) g_267 g_4 g_264 g_266 gs_Re_fail ⟨by decide +kernel, by decide +kernel, show Option.map (fun d => d.parameters.length) (parseMethodDescriptor y_Re_fail.desc) = some 2 by decide +kernel⟩ ⟨by decide, by decide⟩ rfl rfl hP hD hS hA rfl ww_17 hl.1 (Nat.le_of_ble_eq_true rfl) rfl d_Re_isGoodPointer_33 ⟨by decide, by decide⟩ (fun v9 w9 H locs hq hP hD hS => ?_)
      obtain ⟨I8, F9, hw9, q10⟩ := hq
      subst hw9
      obtain ⟨rfl, sI8, zI8, rfl⟩ := q10
      exact hret _ _ _ _ _ _ _ hS hP hD d_Re_isGoodPointer_36 (nr_z (Or.inl rfl)) (Or.inr ⟨(show ¬ (pos + 2 ≤ t.length ∧ pos + 2 ≤ rc ∧ tgt < low) by omega), rfl, (sm_mo sI8 (by decide)), (by rw [zI8]; decide), rfl⟩)
  · have c1 : ¬ (pos + 2 ≤ t.length) := fun z9 => c1 ((nI_leI (a := pos + 2) (b := t.length) (by omega) (by omega)).mpr z9)
    refine lv_aload_n hx hb d_Re_isGoodPointer_13 rfl (lv_at hl 0 rfl) ?_
    refine lv_iconst (v := 1) hx hb d_Re_isGoodPointer_14 (by decide) ?_
    refine lv_topq (y := nI 1) (rfl) ?_
    refine lv_iload_n hx hb d_Re_isGoodPointer_15 rfl (lv_at hl 1 rfl) ?_
    refine mw_cV (ci := 4) (k := 17) C0 (m_Re_fail l D9 cB cI cJ cG a O _ _ (nI 1) _) g_267 g_4 g_264 g_266 gs_Re_fail ⟨by decide +kernel, by decide +kernel, show Option.map (fun d => d.parameters.length) (parseMethodDescriptor y_Re_fail.desc) = some 2 by decide +kernel⟩ ⟨by decide, by decide⟩ rfl rfl hP hD hS hA rfl ww_17 hl.1 (Nat.le_of_ble_eq_true rfl) rfl d_Re_isGoodPointer_16 ⟨by decide, by decide⟩ (fun v9 w9 H locs hq hP hD hS => ?_)
    obtain ⟨I11, F12, hw9, q13⟩ := hq
    subst hw9
    obtain ⟨rfl, sI11, zI11, rfl⟩ := q13
    exact hret _ _ _ _ _ _ _ hS hP hD d_Re_isGoodPointer_19 (nr_z (Or.inl rfl)) (Or.inr ⟨(show ¬ (pos + 2 ≤ t.length ∧ pos + 2 ≤ rc ∧ tgt < low) by omega), rfl, (sm_mo sI11 (by decide)), (by rw [zI11]; decide), rfl⟩)
set_option maxHeartbeats 4000000 in
set_option maxRecDepth 100000 in
/-- Reader.isGoodLabel -/
theorem m_Re_isGoodLabel (l : Launch) (D9 : va_G) (cB cI cJ cG : ClassId) (a : Nat → Nat) (O : Nat → Int64) (I : Nat → Int32) (F : Nat → Nat → Int32) (t : List Nat) (hT2 : I 2 = nI t.length) (htl : t.length ≤ 65536) (pos ld rc sz : Nat) (x : Int32) (h1 : pos < 1000000) (h2 : rc < 1000000) (h3 : ld < 1000000) (h4 : sz < 1000000) : MC l D9 cB cI cJ cG a O y_Re_isGoodLabel b_Re_isGoodLabel 7 (some .boolean) 1 [.ref (a 17), .int (nI pos), .int (nI ld), .int (nI rc), .int (x), .int (nI sz)] I F (fun v I' F' => ((ld ≤ 63 ∧ sz + ld + 2 ≤ 255 ∧ pos + 1 + ld ≤ t.length ∧ pos + 1 + ld ≤ rc) ∧ v = some (.int (nI 1)) ∧ I = I' ∧ F = F') ∨ (¬ (ld ≤ 63 ∧ sz + ld + 2 ≤ 255 ∧ pos + 1 + ld ≤ t.length ∧ pos + 1 + ld ≤ rc) ∧ v = some (.int (nI 0)) ∧ sm [4, 5] I I' ∧ ¬ I' 4 = 0 ∧ F = F')) := by
  refine mc_of (by decide) (Nat.le_of_ble_eq_true rfl) ?_
  intro p e s m below meth c ls A0 Q C0 hP hD hA hS hl hret
  obtain ⟨hx, hb, hml, hr, hlocks, hown, hts, hK⟩ := id C0
  have hl : lv_has ls 7 [(0, .ref (a 17)), (1, .int (nI pos)), (2, .int (nI ld)), (3, .int (nI rc)), (4, .int (x)), (5, .int (nI sz))] := hl
  refine lv_iload_n hx hb d_Re_isGoodLabel_0 rfl (lv_at hl 1 rfl) ?_
  refine lv_iconst (v := 1) hx hb d_Re_isGoodLabel_1 (by decide) ?_
  refine lv_topq (y := nI 1) (rfl) ?_
  refine lv_iadd hx hb d_Re_isGoodLabel_2 ?_
  refine lv_topq (y := nI (pos + 1)) (nI_add _ _) ?_
  refine lv_iload_n hx hb d_Re_isGoodLabel_3 rfl (lv_at hl 2 rfl) ?_
  refine lv_iadd hx hb d_Re_isGoodLabel_4 ?_
  refine lv_topq (y := nI (pos + 1 + ld)) (nI_add _ _) ?_
  refine lv_istore (lv' := [(6, _), (0, _), (1, _), (2, _), (3, _), (4, _), (5, _)]) hx hb d_Re_isGoodLabel_5 hl (by decide) rfl (fun ls hl => ?_)
  refine lv_iload_n hx hb d_Re_isGoodLabel_7 rfl (lv_at hl 3 rfl) ?_
  refine lv_bipush (v := 63) hx hb d_Re_isGoodLabel_8 (by decide) ?_
  refine lv_topq (y := nI 63) (rfl) ?_
  refine lv_icmp_le (tgt := 20) hx hb d_Re_isGoodLabel_10 (by decide) (fun c1 => ?_) (fun c1 => ?_)
  · have c1 : ld ≤ 63 := (nI_leI (a := ld) (b := 63) (by omega) (by omega)).mp c1
    refine lv_iload hx hb d_Re_isGoodLabel_20 (lv_at hl 6 rfl) ?_
    refine lv_iconst (v := 1) hx hb d_Re_isGoodLabel_22 (by decide) ?_
    refine lv_topq (y := nI 1) (rfl) ?_
    refine lv_iadd hx hb d_Re_isGoodLabel_23 ?_
    refine lv_topq (y := nI (sz + 1)) (nI_add _ _) ?_
    refine lv_iload_n hx hb d_Re_isGoodLabel_24 rfl (lv_at hl 3 rfl) ?_
    refine lv_iadd hx hb d_Re_isGoodLabel_25 ?_
    refine lv_topq (y := nI (sz + 1 + ld)) (nI_add _ _) ?_
    refine lv_iconst (v := 1) hx hb d_Re_isGoodLabel_26 (by decide) ?_
    refine lv_topq (y := nI 1) (rfl) ?_
    refine lv_iadd hx hb d_Re_isGoodLabel_27 ?_
    refine lv_topq (y := nI (sz + 1 + ld + 1)) (nI_add _ _) ?_
    refine lv_sipush (v := 255) hx hb d_Re_isGoodLabel_28 (by decide) ?_
    refine lv_topq (y := nI 255) (rfl) ?_
    refine lv_icmp_le (tgt := 42) hx hb d_Re_isGoodLabel_31 (by decide) (fun c2 => ?_) (fun c2 => ?_)
    · have c2 : sz + 1 + ld + 1 ≤ 255 := (nI_leI (a := sz + 1 + ld + 1) (b := 255) (by omega) (by omega)).mp c2
      refine lv_iload hx hb d_Re_isGoodLabel_42 (lv_at hl 0 rfl) ?_
      refine lv_aload_n hx hb d_Re_isGoodLabel_44 rfl (lv_at hl 1 rfl) ?_
      refine va_get (D := D9) (ci := 4) (C := R_Re) (T := F_Re) (N := 8) hx hb hts i_Re hown hK hP 17 ww_17 rfl 0 (by decide) (hts _ g_120) (fun _ h9 => h9) rfl d_Re_isGoodLabel_45 ?_
      refine va_getN (D := D9) (ci := 0) (C := R_By) (T := F_By) (N := 2) hx hb hts i_By hown hK hP 1 ww_1 rfl 1 (by decide) (hts _ g_39) (fun _ h9 => h9) rfl d_Re_isGoodLabel_48 ?_
      refine lv_topq (y := nI t.length) (hT2) ?_
      refine lv_icmp_le (tgt := 63) hx hb d_Re_isGoodLabel_51 (by decide) (fun c3 => ?_) (fun c3 => ?_)
      · have c3 : pos + 1 + ld ≤ t.length := (nI_leI (a := pos + 1 + ld) (b := t.length) (by omega) (by omega)).mp c3
        refine lv_iload hx hb d_Re_isGoodLabel_63 (lv_at hl 0 rfl) ?_
        refine lv_iload_n hx hb d_Re_isGoodLabel_65 rfl (lv_at hl 4 rfl) ?_
        refine lv_icmp_le (tgt := 81) hx hb d_Re_isGoodLabel_66 (by decide) (fun c4 => ?_) (fun c4 => ?_)
        · have c4 : pos + 1 + ld ≤ rc := (nI_leI (a := pos + 1 + ld) (b := rc) (by omega) (by omega)).mp c4
          refine lv_iconst (v := 1) hx hb d_Re_isGoodLabel_81 (by decide) ?_
          refine lv_topq (y := nI 1) (rfl) ?_
          refine lv_goto (tgt := 86) hx hb d_Re_isGoodLabel_82 (by decide) ?_
          exact hret _ _ _ _ _ _ _ hS hP hD d_Re_isGoodLabel_86 (nr_z (Or.inr rfl)) (Or.inl ⟨(show ld ≤ 63 ∧ sz + ld + 2 ≤ 255 ∧ pos + 1 + ld ≤ t.length ∧ pos + 1 + ld ≤ rc by omega), rfl, rfl, rfl⟩)
        · have c4 : ¬ (pos + 1 + ld ≤ rc) := fun z9 => c4 ((nI_leI (a := pos + 1 + ld) (b := rc) (by omega) (by omega)).mpr z9)
          refine lv_aload_n hx hb d_Re_isGoodLabel_69 rfl (lv_at hl 1 rfl) ?_
          refine lv_iconst (v := 5) hx hb d_Re_isGoodLabel_70 (by decide) ?_
          refine lv_topq (y := nI 5) (rfl) ?_
          refine lv_aload_n hx hb d_Re_isGoodLabel_71 rfl (lv_at hl 1 rfl) ?_
          refine va_get (D := D9) (ci := 4) (C := R_Re) (T := F_Re) (N := 8) hx hb hts i_Re hown hK hP 17 ww_17 rfl 7 (by decide) (hts _ g_130) (fun _ h9 => h9) rfl d_Re_isGoodLabel_72 ?_
          refine mw_cV (ci := 4) (k := 17) C0 (m_Re_fail l D9 cB cI cJ cG a O _ _ (nI 5) _) g_267 g_4 g_264 g_266 gs_Re_fail ⟨by decide +kernel, by decide +kernel, show Option.map (fun d => d.parameters.length) (parseMethodDescriptor y_Re_fail.desc) = some 2 by decide +kernel⟩ ⟨by decide, by decide⟩ rfl rfl hP hD hS hA rfl ww_17 hl.1 (Nat.le_of_ble_eq_true rfl) rfl d_Re_isGoodLabel_75 ⟨by decide, by decide⟩ (fun v9 w9 H locs hq hP hD hS => ?_)
          obtain ⟨I5, F6, hw9, q7⟩ := hq
          subst hw9
          obtain ⟨rfl, sI5, zI5, rfl⟩ := q7
          refine lv_if_eq (tgt := 85) hx hb d_Re_isGoodLabel_78 (by decide) (fun c8 => ?_) (fun c8 => ?_)
          · refine lv_iconst (v := 0) hx hb d_Re_isGoodLabel_85 (by decide) ?_
            refine lv_topq (y := nI 0) (rfl) ?_
            exact hret _ _ _ _ _ _ _ hS hP hD d_Re_isGoodLabel_86 (nr_z (Or.inl rfl)) (Or.inr ⟨(show ¬ (ld ≤ 63 ∧ sz + ld + 2 ≤ 255 ∧ pos + 1 + ld ≤ t.length ∧ pos + 1 + ld ≤ rc) by omega), rfl, (sm_mo sI5 (by decide)), (by rw [zI5]; decide), rfl⟩)
          · exact absurd c8 (by decide)
      · have c3 : ¬ (pos + 1 + ld ≤ t.length) := fun z9 => c3 ((nI_leI (a := pos + 1 + ld) (b := t.length) (by omega) (by omega)).mpr z9)
        refine lv_aload_n hx hb d_Re_isGoodLabel_54 rfl (lv_at hl 1 rfl) ?_
        refine lv_iconst (v := 1) hx hb d_Re_isGoodLabel_55 (by decide) ?_
        refine lv_topq (y := nI 1) (rfl) ?_
        refine lv_iload_n hx hb d_Re_isGoodLabel_56 rfl (lv_at hl 2 rfl) ?_
        refine lv_iconst (v := 1) hx hb d_Re_isGoodLabel_57 (by decide) ?_
        refine lv_topq (y := nI 1) (rfl) ?_
        refine lv_iadd hx hb d_Re_isGoodLabel_58 ?_
        refine lv_topq (y := nI (pos + 1)) (nI_add _ _) ?_
        refine mw_cV (ci := 4) (k := 17) C0 (m_Re_fail l D9 cB cI cJ cG a O _ _ (nI 1) _) g_267 g_4 g_264 g_266 gs_Re_fail ⟨by decide +kernel, by decide +kernel, show Option.map (fun d => d.parameters.length) (parseMethodDescriptor y_Re_fail.desc) = some 2 by decide +kernel⟩ ⟨by decide, by decide⟩ rfl rfl hP hD hS hA rfl ww_17 hl.1 (Nat.le_of_ble_eq_true rfl) rfl d_Re_isGoodLabel_59 ⟨by decide, by decide⟩ (fun v9 w9 H locs hq hP hD hS => ?_)
        obtain ⟨I9, F10, hw9, q11⟩ := hq
        subst hw9
        obtain ⟨rfl, sI9, zI9, rfl⟩ := q11
        exact hret _ _ _ _ _ _ _ hS hP hD d_Re_isGoodLabel_62 (nr_z (Or.inl rfl)) (Or.inr ⟨(show ¬ (ld ≤ 63 ∧ sz + ld + 2 ≤ 255 ∧ pos + 1 + ld ≤ t.length ∧ pos + 1 + ld ≤ rc) by omega), rfl, (sm_mo sI9 (by decide)), (by rw [zI9]; decide), rfl⟩)
    · have c2 : ¬ (sz + 1 + ld + 1 ≤ 255) := fun z9 => c2 ((nI_leI (a := sz + 1 + ld + 1) (b := 255) (by omega) (by omega)).mpr z9)
      refine lv_aload_n hx hb d_Re_isGoodLabel_34 rfl (lv_at hl 1 rfl) ?_
      refine lv_iconst (v := 4) hx hb d_Re_isGoodLabel_35 (by decide) ?_
      refine lv_topq (y := nI 4) (rfl) ?_
      refine lv_iload hx hb d_Re_isGoodLabel_36 (lv_at hl 5 rfl) ?_
      refine mw_cV (ci := 4) (k := 17) C0 (m_Re_fail l D9 cB cI cJ cG a O _ _ (nI 4) _) g_267 g_4 g_264 g_266 gs_Re_fail ⟨by decide +kernel, by decide +kernel, show Option.map (fun d => d.parameters.length) (parseMethodDescriptor y_Re_fail.desc) = some 2 by decide +kernel⟩ ⟨by decide, by decide⟩ rfl rfl hP hD hS hA rfl ww_17 hl.1 (Nat.le_of_ble_eq_true rfl) rfl d_Re_isGoodLabel_38 ⟨by decide, by decide⟩ (fun v9 w9 H locs hq hP hD hS => ?_)
      obtain ⟨I12, F13, hw9, q14⟩ := hq
      subst hw9
      obtain ⟨rfl, sI12, zI12, rfl⟩ := q14
      exact hret _ _ _ _ _ _ _ hS hP hD d_Re_isGoodLabel_41 (nr_z (Or.inl rfl)) (Or.inr ⟨(show ¬ (ld ≤ 63 ∧ sz + ld + 2 ≤ 255 ∧ pos + 1 + ld ≤ t.length ∧ pos + 1 + ld ≤ rc) by omega), rfl, (sm_mo sI12 (by decide)), (by rw [zI12]; decide), rfl⟩)
  · have c1 : ¬ (ld ≤ 63) := fun z9 => c1 ((nI_leI (a := ld) (b := 63) (by omega) (by omega)).mpr z9)
    refine lv_aload_n hx hb d_Re_isGoodLabel_13 rfl (lv_at hl 1 rfl) ?_
    refine lv_iconst (v := 2) hx hb d_Re_isGoodLabel_14 (by decide) ?_
    refine lv_topq (y := nI 2) (rfl) ?_
    refine lv_iload_n hx hb d_Re_isGoodLabel_15 rfl (lv_at hl 2 rfl) ?_
    refine mw_cV (ci := 4) (k := 17) C0 (m_Re_fail l D9 cB cI cJ cG a O _ _ (nI 2) _) g_267 g_4 g_264 g_266 gs_Re_fail ⟨by decide +kernel, by decide +kernel, show Option.map (fun d => d.parameters.length) (parseMethodDescriptor y_Re_fail.desc) = some 2 by decide +kernel⟩ ⟨by decide, by decide⟩ rfl rfl hP hD hS hA rfl ww_17 hl.1 (Nat.le_of_ble_eq_true rfl) rfl d_Re_isGoodLabel_16 ⟨by decide, by decide⟩ (fun v9 w9 H locs hq hP hD hS => ?_)
    obtain ⟨I15, F16, hw9, q17⟩ := hq
    subst hw9
    obtain ⟨rfl, sI15, zI15, rfl⟩ := q17
    exact hret _ _ _ _ _ _ _ hS hP hD d_Re_isGoodLabel_19 (nr_z (Or.inl rfl)) (Or.inr ⟨(show ¬ (ld ≤ 63 ∧ sz + ld + 2 ≤ 255 ∧ pos + 1 + ld ≤ t.length ∧ pos + 1 + ld ≤ rc) by omega), rfl, (sm_mo sI15 (by decide)), (by rw [zI15]; decide), rfl⟩)
set_option maxHeartbeats 4000000 in
set_option maxRecDepth 100000 in
/-- Reader.takeName -/
theorem m_Re_takeName (l : Launch) (D9 : va_G) (cB cI cJ cG : ClassId) (a : Nat → Nat) (O : Nat → Int64) (I : Nat → Int32) (F : Nat → Nat → Int32) (t : List Nat) (hT2 : I 2 = nI t.length) (htl : t.length ≤ 65536) (hT : BR 0 65536 (F 2) t) (L : List Nat) (b st9 fw : Nat) (hL3 : I 3 = nI L.length) (hLb : L.length < 500000) (hBL : BR 0 65536 (F 4) L) (hb9 : b ≤ t.length) (hst9 : st9 ≤ 65536) (hfw : I 7 = nI fw) : MC l D9 cB cI cJ cG a O y_Re_takeName b_Re_takeName 11 (some .boolean) 2 [.ref (a 17), .int (nI st9), .int (nI b)] I F (fun v I' F' => (∃ nm e c, rn 16639 t b st9 st9 0 none = some (nm, e, c) ∧ v = some (.int (nI 1)) ∧ sm [3, 6, 7] I I' ∧ I' 3 = nI (L ++ nm).length ∧ I' 6 = nI e ∧ I' 7 = nI (fw + c) ∧ sm [4] F F' ∧ BR 0 65536 (F' 4) (L ++ nm)) ∨ (rn 16639 t b st9 st9 0 none = none ∧ v = some (.int (nI 0)) ∧ sm [3, 4, 5, 6, 7] I I' ∧ ¬ I' 4 = 0 ∧ sm [4] F F' ∧ BR 0 65536 (F' 4) L)) := by
  refine mc_of (by decide) (Nat.le_of_ble_eq_true rfl) ?_
  intro p e s m below meth c ls A0 Q C0 hP hD hA hS hl hret
  obtain ⟨hx, hb, hml, hr, hlocks, hown, hts, hK⟩ := id C0
  have hl : lv_has ls 11 [(0, .ref (a 17)), (1, .int (nI st9)), (2, .int (nI b))] := hl
  refine lv_iload_n hx hb d_Re_takeName_0 rfl (lv_at hl 1 rfl) ?_
  refine lv_istore_n (lv' := [(3, _), (0, _), (1, _), (2, _)]) hx hb d_Re_takeName_1 rfl hl (by decide) rfl (fun ls hl => ?_)
  refine lv_iload_n hx hb d_Re_takeName_2 rfl (lv_at hl 2 rfl) ?_
  refine lv_istore (lv' := [(4, _), (3, _), (0, _), (1, _), (2, _)]) hx hb d_Re_takeName_3 hl (by decide) rfl (fun ls hl => ?_)
  refine lv_iconst (v := 0) hx hb d_Re_takeName_5 (by decide) ?_
  refine lv_topq (y := nI 0) (rfl) ?_
  refine lv_istore (lv' := [(5, _), (4, _), (3, _), (0, _), (1, _), (2, _)]) hx hb d_Re_takeName_6 hl (by decide) rfl (fun ls hl => ?_)
  refine lv_iconst (v := 0) hx hb d_Re_takeName_8 (by decide) ?_
  refine lv_topq (y := nI 0) (rfl) ?_
  refine lv_istore (lv' := [(6, _), (5, _), (4, _), (3, _), (0, _), (1, _), (2, _)]) hx hb d_Re_takeName_9 hl (by decide) rfl (fun ls hl => ?_)
  refine lv_iconst (v := 0) hx hb d_Re_takeName_11 (by decide) ?_
  refine lv_topq (y := nI 0) (rfl) ?_
  refine lv_istore (lv' := [(7, _), (6, _), (5, _), (4, _), (3, _), (0, _), (1, _), (2, _)]) hx hb d_Re_takeName_12 hl (by decide) rfl (fun ls hl => ?_)
  have loop1 : ∀ (n9 : Nat) (k : Nat) (pos : Nat) (low : Nat) (sz : Nat) (nx : Option Nat) (cc9 : Nat) (acc : List Nat) (I9 : Nat → Int32) (F9 : Nat → Nat → Int32) (H : Heap) (locs : List Loc) (ls : Array Slot), (sm [3, 6, 7] I I9) → (sm [4] F F9) → (16639 - k = n9) → (k ≤ 16639) → (rn 16639 t b st9 st9 0 none = (rn (16639 - k) t b pos low sz nx).map (fun r => (acc ++ r.1, r.2.1, cc9 + r.2.2))) → (acc.length = sz ∧ sz ≤ 254) → (pos ≤ 65536 ∧ low ≤ 65536) → (∀ z, nx = some z → I9 6 = nI z ∧ z ≤ 65536) → (I9 3 = nI (L ++ acc).length) → (I9 7 = nI (fw + cc9)) → (BR 0 65536 (F9 4) (L ++ acc)) → va_P D9 cls9 (WW a cB cI cJ cG I9 F9 O) H → va_D A0 (WW a cB cI cJ cG I9 F9 O) → va_S A0 s.heap H locs → lv_has ls 11 [(0, .ref (a 17)), (1, .int (nI st9)), (2, .int (nI b)), (3, .int (nI pos)), (4, .int (nI low)), (5, .int (nI sz)), (6, .int (bI nx.isSome)), (7, .int (nI k))] → W p l e (rm9 2 0 0) s m ([.ref (a 17), .int (nI st9), .int (nI b)] : List Value).toArray below meth c H locs 0 0 Q (F0 m 14 ls []) := by
    intro n9
    induction n9 using Nat.strongRecOn with
    | ind n9 ih =>
      intro k pos low sz nx cc9 acc I9 F9 H locs ls hsI hsF hn9 hk hR hz hpo hnx h3 h7 hB hP hD hS hl
      refine lv_iload hx hb d_Re_takeName_14 (lv_at hl 7 rfl) ?_
      refine lv_sipush (v := 16639) hx hb d_Re_takeName_16 (by decide) ?_
      refine lv_topq (y := nI 16639) (rfl) ?_
      refine lv_icmp_ge (tgt := 267) hx hb d_Re_takeName_19 (by decide) (fun c1 => ?_) (fun c1 => ?_)
      · have c1 : 16639 ≤ k := (nI_leI (a := 16639) (b := k) (by omega) (by omega)).mp c1
        obtain rfl : k = 16639 := by omega
        refine lv_aload_n hx hb d_Re_takeName_267 rfl (lv_at hl 0 rfl) ?_
        refine lv_iconst (v := 3) hx hb d_Re_takeName_268 (by decide) ?_
        refine lv_topq (y := nI 3) (rfl) ?_
        refine lv_iload_n hx hb d_Re_takeName_269 rfl (lv_at hl 3 rfl) ?_
        refine mw_cV (ci := 4) (k := 17) C0 (m_Re_fail l D9 cB cI cJ cG a O _ _ (nI 3) _) g_267 g_4 g_264 g_266 gs_Re_fail ⟨by decide +kernel, by decide +kernel, show Option.map (fun d => d.parameters.length) (parseMethodDescriptor y_Re_fail.desc) = some 2 by decide +kernel⟩ ⟨by decide, by decide⟩ rfl rfl hP hD hS hA rfl ww_17 hl.1 (Nat.le_of_ble_eq_true rfl) rfl d_Re_takeName_270 ⟨by decide, by decide⟩ (fun v9 w9 H locs hq hP hD hS => ?_)
        obtain ⟨I2, F3, hw9, q4⟩ := hq
        subst hw9
        obtain ⟨rfl, sI2, zI2, rfl⟩ := q4
        exact hret _ _ _ _ _ _ _ hS hP hD d_Re_takeName_273 (nr_z (Or.inl rfl)) (Or.inr ⟨(by rw [hR]; rfl), rfl, (sm_tr (sm_mo hsI (by decide)) (sm_mo sI2 (by decide))), (by rw [zI2]; decide), (sm_mo hsF (by decide)), BR_pre hB⟩)
      · have c1 : ¬ (16639 ≤ k) := fun z9 => c1 ((nI_leI (a := 16639) (b := k) (by omega) (by omega)).mpr z9)
        have hf : 16639 - k = (16639 - (k + 1)) + 1 := by omega
        rw [hf] at hR
        refine lv_iload_n hx hb d_Re_takeName_22 rfl (lv_at hl 3 rfl) ?_
        refine lv_aload_n hx hb d_Re_takeName_23 rfl (lv_at hl 0 rfl) ?_
        refine va_get (D := D9) (ci := 4) (C := R_Re) (T := F_Re) (N := 8) hx hb hts i_Re hown hK hP 17 ww_17 rfl 0 (by decide) (hts _ g_120) (fun _ h9 => h9) rfl d_Re_takeName_24 ?_
        refine va_getN (D := D9) (ci := 0) (C := R_By) (T := F_By) (N := 2) hx hb hts i_By hown hK hP 1 ww_1 rfl 1 (by decide) (hts _ g_39) (fun _ h9 => h9) rfl d_Re_takeName_27 ?_
        refine lv_topq (y := nI t.length) (((hsI 2 (by decide)).trans hT2)) ?_
        refine lv_icmp_lt (tgt := 40) hx hb d_Re_takeName_30 (by decide) (fun c5 => ?_) (fun c5 => ?_)
        · have c5 : pos < t.length := (nI_ltI (a := pos) (b := t.length) (by omega) (by omega)).mp c5
          have hT9 : BR 0 65536 (F9 2) t := BR_eq hT (hsF 2 (by decide))
          have hby : tb t pos < 256 := BR_lt hT (by omega) (by omega) (by omega)
          have hLn : (L ++ acc).length = L.length + sz := by rw [List.length_append]; omega
          refine lv_aload_n hx hb d_Re_takeName_40 rfl (lv_at hl 0 rfl) ?_
          refine va_get (D := D9) (ci := 4) (C := R_Re) (T := F_Re) (N := 8) hx hb hts i_Re hown hK hP 17 ww_17 rfl 0 (by decide) (hts _ g_120) (fun _ h9 => h9) rfl d_Re_takeName_41 ?_
          refine lv_iload_n hx hb d_Re_takeName_44 rfl (lv_at hl 3 rfl) ?_
          refine mw_cVN (ci := 0) (k := 1) C0 (m_By_atL_tp l D9 cB cI cJ cG a O _ _ t pos hT9 htl (by omega)) g_259 g_2 g_280 g_258 gs_By_at ⟨by decide +kernel, by decide +kernel, show Option.map (fun d => d.parameters.length) (parseMethodDescriptor y_By_at.desc) = some 1 by decide +kernel⟩ ⟨by decide, by decide⟩ rfl rfl hP hD hS hA rfl ww_1 hl.1 (Nat.le_of_ble_eq_true rfl) rfl d_Re_takeName_45 ⟨by decide, by decide⟩ (fun v9 w9 H locs hq hP hD hS => ?_)
          obtain ⟨I6, F7, hw9, q8⟩ := hq
          subst hw9
          obtain ⟨rfl, rfl, rfl⟩ := q8
          refine lv_istore (lv' := [(8, _), (0, _), (1, _), (2, _), (3, _), (4, _), (5, _), (6, _), (7, _)]) hx hb d_Re_takeName_48 hl (by decide) rfl (fun ls hl => ?_)
          refine lv_iload hx hb d_Re_takeName_50 (lv_at hl 7 rfl) ?_
          refine lv_if_eq (tgt := 65) hx hb d_Re_takeName_52 (by decide) (fun c9 => ?_) (fun c9 => ?_)
          · have c9 : nx.isSome = false := bI_f c9
            obtain rfl : nx = none := by cases nx with | none => rfl | some z => cases c9
            refine lv_iload_n hx hb d_Re_takeName_65 rfl (lv_at hl 3 rfl) ?_
            refine lv_istore (lv' := [(9, _), (8, _), (0, _), (1, _), (2, _), (3, _), (4, _), (5, _), (6, _), (7, _)]) hx hb d_Re_takeName_66 hl (by decide) rfl (fun ls hl => ?_)
            refine lv_iload hx hb d_Re_takeName_68 (lv_at hl 1 rfl) ?_
            refine lv_if_ne (tgt := 129) hx hb d_Re_takeName_70 (by decide) (fun c10 => ?_) (fun c10 => ?_)
            · have c10 : ¬ (tb t pos = 0) := fun z9 => c10 ((nI_eq (a := tb t pos) (b := 0) (by omega) (by omega)).mpr z9)
              refine lv_iload hx hb d_Re_takeName_129 (lv_at hl 1 rfl) ?_
              refine lv_sipush (v := 192) hx hb d_Re_takeName_131 (by decide) ?_
              refine lv_topq (y := nI 192) (rfl) ?_
              refine lv_icmp_lt (tgt := 209) hx hb d_Re_takeName_134 (by decide) (fun c11 => ?_) (fun c11 => ?_)
              · have c11 : tb t pos < 192 := (nI_ltI (a := tb t pos) (b := 192) (by omega) (by omega)).mp c11
                refine lv_aload_n hx hb d_Re_takeName_209 rfl (lv_at hl 2 rfl) ?_
                refine lv_iload_n hx hb d_Re_takeName_210 rfl (lv_at hl 5 rfl) ?_
                refine lv_iload hx hb d_Re_takeName_211 (lv_at hl 1 rfl) ?_
                refine lv_iload hx hb d_Re_takeName_213 (lv_at hl 0 rfl) ?_
                refine lv_iload_n hx hb d_Re_takeName_215 rfl (lv_at hl 3 rfl) ?_
                refine lv_iload hx hb d_Re_takeName_216 (lv_at hl 7 rfl) ?_
                refine mw_cV (ci := 4) (k := 17) C0 (m_Re_isGoodLabel l D9 cB cI cJ cG a O _ _ t ((hsI 2 (by decide)).trans hT2) htl pos (tb t pos) b sz (nI st9) (by omega) (by omega) (by omega) (by omega)) g_296 g_4 g_293 g_295 gs_Re_isGoodLabel ⟨by decide +kernel, by decide +kernel, show Option.map (fun d => d.parameters.length) (parseMethodDescriptor y_Re_isGoodLabel.desc) = some 5 by decide +kernel⟩ ⟨by decide, by decide⟩ rfl rfl hP hD hS hA rfl ww_17 hl.1 (Nat.le_of_ble_eq_true rfl) rfl d_Re_takeName_218 ⟨by decide, by decide⟩ (fun v9 w9 H locs hq hP hD hS => ?_)
                obtain ⟨I12, F13, hw9, q14⟩ := hq
                subst hw9
                rcases q14 with ⟨g15, rfl, rfl, rfl⟩ | ⟨g15, rfl, s16, u17, rfl⟩
                · refine lv_if_ne (tgt := 226) hx hb d_Re_takeName_221 (by decide) (fun c18 => ?_) (fun c18 => ?_)
                  · have hgood : ¬ (63 < tb t pos ∨ 255 < sz + tb t pos + 2 ∨ t.length < pos + 1 + tb t pos ∨ rch t b none < pos + 1 + tb t pos) := by show ¬ (_ ∨ _ ∨ _ ∨ b < _); omega
                    rw [rn_lab c5 c10 (by omega), if_neg hgood, rn_ml] at hR
                    refine lv_aload_n hx hb d_Re_takeName_226 rfl (lv_at hl 2 rfl) ?_
                    refine va_get (D := D9) (ci := 4) (C := R_Re) (T := F_Re) (N := 8) hx hb hts i_Re hown hK hP 17 ww_17 rfl 1 (by decide) (hts _ g_121) (fun _ h9 => h9) rfl d_Re_takeName_227 ?_
                    refine va_getN (D := D9) (ci := 2) (C := R_Ga) (T := F_Ga) (N := 11) hx hb hts i_Ga hown hK hP 19 ww_19 rfl 0 (by decide) (hts _ g_60) (fun _ h9 => h9) rfl d_Re_takeName_230 ?_
                    refine lv_aload_n hx hb d_Re_takeName_233 rfl (lv_at hl 2 rfl) ?_
                    refine va_get (D := D9) (ci := 4) (C := R_Re) (T := F_Re) (N := 8) hx hb hts i_Re hown hK hP 17 ww_17 rfl 0 (by decide) (hts _ g_120) (fun _ h9 => h9) rfl d_Re_takeName_234 ?_
                    refine lv_iload_n hx hb d_Re_takeName_237 rfl (lv_at hl 5 rfl) ?_
                    refine lv_iload hx hb d_Re_takeName_238 (lv_at hl 1 rfl) ?_
                    refine lv_iconst (v := 1) hx hb d_Re_takeName_240 (by decide) ?_
                    refine lv_topq (y := nI 1) (rfl) ?_
                    refine lv_iadd hx hb d_Re_takeName_241 ?_
                    refine lv_topq (y := nI (tb t pos + 1)) (nI_add _ _) ?_
                    refine mw_cVN (ci := 0) (k := 3) C0 (m_By_putFrom_gb_tp l D9 cB cI cJ cG a O _ _ (L ++ acc) t 0 pos (tb t pos + 1) hB hT9 h3 htl (by omega) (by omega)) g_300 g_2 g_297 g_299 gs_By_putFrom ⟨by decide +kernel, by decide +kernel, show Option.map (fun d => d.parameters.length) (parseMethodDescriptor y_By_putFrom.desc) = some 3 by decide +kernel⟩ ⟨by decide, by decide⟩ rfl rfl hP hD hS hA rfl ww_3 hl.1 (Nat.le_of_ble_eq_true rfl) rfl d_Re_takeName_242 ⟨by decide, by decide⟩ (fun v9 w9 H locs hq hP hD hS => ?_)
                    obtain ⟨I19, F20, hw9, q21⟩ := hq
                    subst hw9
                    obtain ⟨rfl, sI19, zI19, sF20, wF20⟩ := q21
                    refine lv_iload hx hb d_Re_takeName_245 (lv_at hl 7 rfl) ?_
                    refine lv_iload hx hb d_Re_takeName_247 (lv_at hl 1 rfl) ?_
                    refine lv_iconst (v := 1) hx hb d_Re_takeName_249 (by decide) ?_
                    refine lv_topq (y := nI 1) (rfl) ?_
                    refine lv_iadd hx hb d_Re_takeName_250 ?_
                    refine lv_topq (y := nI (tb t pos + 1)) (nI_add _ _) ?_
                    refine lv_iadd hx hb d_Re_takeName_251 ?_
                    refine lv_topq (y := nI (sz + (tb t pos + 1))) (nI_add _ _) ?_
                    refine lv_istore (lv' := [(5, _), (9, _), (8, _), (0, _), (1, _), (2, _), (3, _), (4, _), (6, _), (7, _)]) hx hb d_Re_takeName_252 hl (by decide) rfl (fun ls hl => ?_)
                    refine lv_iload_n hx hb d_Re_takeName_254 rfl (lv_at hl 6 rfl) ?_
                    refine lv_iload hx hb d_Re_takeName_255 (lv_at hl 2 rfl) ?_
                    refine lv_iconst (v := 1) hx hb d_Re_takeName_257 (by decide) ?_
                    refine lv_topq (y := nI 1) (rfl) ?_
                    refine lv_iadd hx hb d_Re_takeName_258 ?_
                    refine lv_topq (y := nI (tb t pos + 1)) (nI_add _ _) ?_
                    refine lv_iadd hx hb d_Re_takeName_259 ?_
                    refine lv_topq (y := nI (pos + (tb t pos + 1))) (nI_add _ _) ?_
                    refine lv_istore_n (lv' := [(3, _), (5, _), (9, _), (8, _), (0, _), (1, _), (2, _), (4, _), (6, _), (7, _)]) hx hb d_Re_takeName_260 rfl hl (by decide) rfl (fun ls hl => ?_)
                    refine lv_iinc (lv' := [(7, .int (nI (k + 1))), (3, _), (5, _), (9, _), (8, _), (0, _), (1, _), (2, _), (4, _), (6, _)]) hx hb d_Re_takeName_261 hl (k := 9) rfl (nI_add _ 1) (by decide) rfl (fun ls hl => ?_)
                    refine lv_goto (tgt := 14) hx hb d_Re_takeName_264 (by decide) ?_
                    exact ih _ (by omega) (k + 1) (pos + (tb t pos + 1)) low (sz + (tb t pos + 1)) none cc9 (acc ++ sl9 t pos (tb t pos + 1)) _ _ _ _ _ (sm_tr (sm_mo hsI (by decide)) (sm_mo sI19 (by decide))) (sm_tr (sm_mo hsF (by decide)) (sm_mo sF20 (by decide))) rfl (by omega) hR ⟨by rw [List.length_append, sl9_len (by omega)]; omega, by omega⟩ ⟨by omega, by omega⟩ (fun y hy => by cases hy) (by rw [zI19]; exact congrArg nI (by simp only [List.length_append, sl9_len (show pos + (tb t pos + 1) ≤ t.length by omega)]; omega)) ((sI19 7 (by decide)).trans h7) (by rw [← List.append_assoc]; exact wF20) hP hD hS (lv_pk hl [5, 6, 7, 1, 8, 2, 9, 0] rfl)
                  · exact absurd c18 (by decide)
                · refine lv_if_ne (tgt := 226) hx hb d_Re_takeName_221 (by decide) (fun c22 => ?_) (fun c22 => ?_)
                  · exact absurd c22 (by decide)
                  · have hbad : 63 < tb t pos ∨ 255 < sz + tb t pos + 2 ∨ t.length < pos + 1 + tb t pos ∨ rch t b none < pos + 1 + tb t pos := by show _ ∨ _ ∨ _ ∨ b < _; omega
                    refine lv_iconst (v := 0) hx hb d_Re_takeName_224 (by decide) ?_
                    refine lv_topq (y := nI 0) (rfl) ?_
                    exact hret _ _ _ _ _ _ _ hS hP hD d_Re_takeName_225 (nr_z (Or.inl rfl)) (Or.inr ⟨(by rw [hR, rn_lab c5 c10 (by omega), if_pos hbad]; rfl), rfl, (sm_tr (sm_mo hsI (by decide)) (sm_mo s16 (by decide))), u17, (sm_mo hsF (by decide)), BR_pre hB⟩)
              · have c11 : ¬ (tb t pos < 192) := fun z9 => c11 ((nI_ltI (a := tb t pos) (b := 192) (by omega) (by omega)).mpr z9)
                by_cases hp2 : pos + 2 ≤ t.length
                · have hby2 : tb t (pos + 1) < 256 := BR_lt hT (by omega) (by omega) (by omega)
                  have htg : tg t pos < 16384 := Nat.mod_lt _ (by decide)
                  refine lv_aload_n hx hb d_Re_takeName_137 rfl (lv_at hl 2 rfl) ?_
                  refine va_get (D := D9) (ci := 4) (C := R_Re) (T := F_Re) (N := 8) hx hb hts i_Re hown hK hP 17 ww_17 rfl 0 (by decide) (hts _ g_120) (fun _ h9 => h9) rfl d_Re_takeName_138 ?_
                  refine lv_iload_n hx hb d_Re_takeName_141 rfl (lv_at hl 5 rfl) ?_
                  refine mw_cVN (ci := 0) (k := 1) C0 (m_By_twoAtL_tp l D9 cB cI cJ cG a O _ _ t pos hT9 htl (by omega)) g_255 g_2 g_252 g_254 gs_By_twoAt ⟨by decide +kernel, by decide +kernel, show Option.map (fun d => d.parameters.length) (parseMethodDescriptor y_By_twoAt.desc) = some 1 by decide +kernel⟩ ⟨by decide, by decide⟩ rfl rfl hP hD hS hA rfl ww_1 hl.1 (Nat.le_of_ble_eq_true rfl) rfl d_Re_takeName_142 ⟨by decide, by decide⟩ (fun v9 w9 H locs hq hP hD hS => ?_)
                  obtain ⟨I23, F24, hw9, q25⟩ := hq
                  subst hw9
                  obtain ⟨rfl, rfl, rfl⟩ := q25
                  refine lv_sipush (v := 16383) hx hb d_Re_takeName_145 (by decide) ?_
                  refine lv_topq (y := nI 16383) (rfl) ?_
                  refine lv_iand hx hb d_Re_takeName_148 ?_
                  refine lv_topq (y := nI (tg t pos)) (pk_andN (by omega) 14 (by decide)) ?_
                  refine lv_istore (lv' := [(10, _), (9, _), (8, _), (0, _), (1, _), (2, _), (3, _), (4, _), (5, _), (6, _), (7, _)]) hx hb d_Re_takeName_149 hl (by decide) rfl (fun ls hl => ?_)
                  refine lv_aload_n hx hb d_Re_takeName_151 rfl (lv_at hl 3 rfl) ?_
                  refine lv_iload_n hx hb d_Re_takeName_152 rfl (lv_at hl 6 rfl) ?_
                  refine lv_iload hx hb d_Re_takeName_153 (lv_at hl 1 rfl) ?_
                  refine lv_iload hx hb d_Re_takeName_155 (lv_at hl 0 rfl) ?_
                  refine lv_iload hx hb d_Re_takeName_157 (lv_at hl 7 rfl) ?_
                  refine mw_cV (ci := 4) (k := 17) C0 (m_Re_isGoodPointer l D9 cB cI cJ cG a O _ _ t ((hsI 2 (by decide)).trans hT2) htl pos b (tg t pos) low (by omega) (by omega) (by omega) (by omega)) g_292 g_4 g_289 g_291 gs_Re_isGoodPointer ⟨by decide +kernel, by decide +kernel, show Option.map (fun d => d.parameters.length) (parseMethodDescriptor y_Re_isGoodPointer.desc) = some 4 by decide +kernel⟩ ⟨by decide, by decide⟩ rfl rfl hP hD hS hA rfl ww_17 hl.1 (Nat.le_of_ble_eq_true rfl) rfl d_Re_takeName_159 ⟨by decide, by decide⟩ (fun v9 w9 H locs hq hP hD hS => ?_)
                  obtain ⟨I26, F27, hw9, q28⟩ := hq
                  subst hw9
                  rcases q28 with ⟨g29, rfl, rfl, rfl⟩ | ⟨g29, rfl, s30, u31, rfl⟩
                  · refine lv_if_ne (tgt := 167) hx hb d_Re_takeName_162 (by decide) (fun c32 => ?_) (fun c32 => ?_)
                    · have hgood : ¬ (t.length < pos + 2 ∨ rch t b none < pos + 2 ∨ low ≤ tg t pos) := by show ¬ (_ ∨ b < pos + 2 ∨ _); omega
                      rw [rn_ptr c5 (by omega), if_neg hgood, rn_mp] at hR
                      refine lv_aload_n hx hb d_Re_takeName_167 rfl (lv_at hl 3 rfl) ?_
                      refine lv_iload hx hb d_Re_takeName_168 (lv_at hl 9 rfl) ?_
                      refine lv_topq (y := nI 0) (rfl) ?_
                      refine lv_if_eq (tgt := 180) hx hb d_Re_takeName_170 (by decide) (fun c33 => ?_) (fun c33 => ?_)
                      · refine lv_iload_n hx hb d_Re_takeName_180 rfl (lv_at hl 6 rfl) ?_
                        refine lv_iconst (v := 2) hx hb d_Re_takeName_181 (by decide) ?_
                        refine lv_topq (y := nI 2) (rfl) ?_
                        refine lv_iadd hx hb d_Re_takeName_182 ?_
                        refine lv_topq (y := nI (pos + 2)) (nI_add _ _) ?_
                        refine va_put (D := D9) (ty := .int) (ci := 4) (C := R_Re) (T := F_Re) (N := 8) hx hb hts i_Re t_Re t_Re_ok n_Re hown hK hP hD hS 17 ww_17 rfl 4 (by decide) (hts _ g_125) (fun _ h9 => h9) rfl (by decide +kernel) rfl rfl (Nat.le_of_ble_eq_true rfl) d_Re_takeName_183 (fun H locs hP hD hS => ?_)
                        obtain ⟨I34, aI34, sI34, hP, hD⟩ := fx (P := fun z => va_P D9 cls9 (WW a cB cI cJ cG z _ O) H ∧ va_D A0 (WW a cB cI cJ cG z _ O)) ⟨wp_6 hP, wd_6 hD⟩
                        refine lv_iconst (v := 1) hx hb d_Re_takeName_186 (by decide) ?_
                        refine lv_topq (y := nI 1) (rfl) ?_
                        refine lv_istore (lv' := [(6, _), (10, _), (9, _), (8, _), (0, _), (1, _), (2, _), (3, _), (4, _), (5, _), (7, _)]) hx hb d_Re_takeName_187 hl (by decide) rfl (fun ls hl => ?_)
                        refine lv_aload_n hx hb d_Re_takeName_189 rfl (lv_at hl 4 rfl) ?_
                        refine lv_dup hx hb d_Re_takeName_190 rfl ?_
                        refine va_get (D := D9) (ci := 4) (C := R_Re) (T := F_Re) (N := 8) hx hb hts i_Re hown hK hP 17 ww_17 rfl 5 (by decide) (hts _ g_126) (fun _ h9 => h9) rfl d_Re_takeName_191 ?_
                        refine lv_topq (y := nI (fw + cc9)) (((sI34 7 (by decide)).trans h7)) ?_
                        refine lv_iconst (v := 1) hx hb d_Re_takeName_194 (by decide) ?_
                        refine lv_topq (y := nI 1) (rfl) ?_
                        refine lv_iadd hx hb d_Re_takeName_195 ?_
                        refine lv_topq (y := nI (fw + cc9 + 1)) (nI_add _ _) ?_
                        refine va_put (D := D9) (ty := .int) (ci := 4) (C := R_Re) (T := F_Re) (N := 8) hx hb hts i_Re t_Re t_Re_ok n_Re hown hK hP hD hS 17 ww_17 rfl 5 (by decide) (hts _ g_126) (fun _ h9 => h9) rfl (by decide +kernel) rfl rfl (Nat.le_of_ble_eq_true rfl) d_Re_takeName_196 (fun H locs hP hD hS => ?_)
                        obtain ⟨I35, aI35, sI35, hP, hD⟩ := fx (P := fun z => va_P D9 cls9 (WW a cB cI cJ cG z _ O) H ∧ va_D A0 (WW a cB cI cJ cG z _ O)) ⟨wp_7 hP, wd_7 hD⟩
                        refine lv_iload hx hb d_Re_takeName_199 (lv_at hl 1 rfl) ?_
                        refine lv_istore (lv' := [(4, _), (6, _), (10, _), (9, _), (8, _), (0, _), (1, _), (2, _), (3, _), (5, _), (7, _)]) hx hb d_Re_takeName_201 hl (by decide) rfl (fun ls hl => ?_)
                        refine lv_iload hx hb d_Re_takeName_203 (lv_at hl 2 rfl) ?_
                        refine lv_istore_n (lv' := [(3, _), (4, _), (6, _), (10, _), (9, _), (8, _), (0, _), (1, _), (2, _), (5, _), (7, _)]) hx hb d_Re_takeName_205 rfl hl (by decide) rfl (fun ls hl => ?_)
                        refine lv_goto (tgt := 261) hx hb d_Re_takeName_206 (by decide) ?_
                        refine lv_iinc (lv' := [(7, .int (nI (k + 1))), (3, _), (4, _), (6, _), (10, _), (9, _), (8, _), (0, _), (1, _), (2, _), (5, _)]) hx hb d_Re_takeName_261 hl (k := 10) rfl (nI_add _ 1) (by decide) rfl (fun ls hl => ?_)
                        refine lv_goto (tgt := 14) hx hb d_Re_takeName_264 (by decide) ?_
                        exact ih _ (by omega) (k + 1) (tg t pos) (tg t pos) sz (some (pos + 2)) (cc9 + 1) acc _ _ _ _ _ (sm_tr (sm_tr (sm_mo hsI (by decide)) (sm_mo sI34 (by decide))) (sm_mo sI35 (by decide))) (sm_mo hsF (by decide)) rfl (by omega) hR hz ⟨by omega, by omega⟩ (fun y hy => by cases hy; exact ⟨((sI35 6 (by decide)).trans aI34), by omega⟩) (((sI35 3 (by decide)).trans (sI34 3 (by decide))).trans h3) aI35 hB hP hD hS (lv_pk hl [7, 8, 9, 1, 2, 10, 3, 0] rfl)
                      · exact absurd c33 (by decide)
                    · exact absurd c32 (by decide)
                  · refine lv_if_ne (tgt := 167) hx hb d_Re_takeName_162 (by decide) (fun c36 => ?_) (fun c36 => ?_)
                    · exact absurd c36 (by decide)
                    · have hbad : t.length < pos + 2 ∨ rch t b none < pos + 2 ∨ low ≤ tg t pos := by show _ ∨ b < pos + 2 ∨ _; omega
                      refine lv_iconst (v := 0) hx hb d_Re_takeName_165 (by decide) ?_
                      refine lv_topq (y := nI 0) (rfl) ?_
                      exact hret _ _ _ _ _ _ _ hS hP hD d_Re_takeName_166 (nr_z (Or.inl rfl)) (Or.inr ⟨(by rw [hR, rn_ptr c5 (by omega), if_pos hbad]; rfl), rfl, (sm_tr (sm_mo hsI (by decide)) (sm_mo s30 (by decide))), u31, (sm_mo hsF (by decide)), BR_pre hB⟩)
                · refine lv_aload_n hx hb d_Re_takeName_137 rfl (lv_at hl 2 rfl) ?_
                  refine va_get (D := D9) (ci := 4) (C := R_Re) (T := F_Re) (N := 8) hx hb hts i_Re hown hK hP 17 ww_17 rfl 0 (by decide) (hts _ g_120) (fun _ h9 => h9) rfl d_Re_takeName_138 ?_
                  refine lv_iload_n hx hb d_Re_takeName_141 rfl (lv_at hl 5 rfl) ?_
                  refine mw_cVN (ci := 0) (k := 1) C0 (m_By_twoAt_tp l D9 cB cI cJ cG a O _ _ _) g_255 g_2 g_252 g_254 gs_By_twoAt ⟨by decide +kernel, by decide +kernel, show Option.map (fun d => d.parameters.length) (parseMethodDescriptor y_By_twoAt.desc) = some 1 by decide +kernel⟩ ⟨by decide, by decide⟩ rfl rfl hP hD hS hA rfl ww_1 hl.1 (Nat.le_of_ble_eq_true rfl) rfl d_Re_takeName_142 ⟨by decide, by decide⟩ (fun v9 w9 H locs hq hP hD hS => ?_)
                  obtain ⟨I37, F38, hw9, q39⟩ := hq
                  subst hw9
                  obtain ⟨rfl, rfl, rfl⟩ := q39
                  obtain ⟨w9, hw9, ew9⟩ := bt2_ex (F9 2) (nI pos)
                  refine lv_topq (y := nI w9) (ew9) ?_
                  refine lv_sipush (v := 16383) hx hb d_Re_takeName_145 (by decide) ?_
                  refine lv_topq (y := nI 16383) (rfl) ?_
                  refine lv_iand hx hb d_Re_takeName_148 ?_
                  refine lv_topq (y := nI (w9 % 16384)) (pk_andN (by omega) 14 (by decide)) ?_
                  refine lv_istore (lv' := [(10, _), (9, _), (8, _), (0, _), (1, _), (2, _), (3, _), (4, _), (5, _), (6, _), (7, _)]) hx hb d_Re_takeName_149 hl (by decide) rfl (fun ls hl => ?_)
                  refine lv_aload_n hx hb d_Re_takeName_151 rfl (lv_at hl 3 rfl) ?_
                  refine lv_iload_n hx hb d_Re_takeName_152 rfl (lv_at hl 6 rfl) ?_
                  refine lv_iload hx hb d_Re_takeName_153 (lv_at hl 1 rfl) ?_
                  refine lv_iload hx hb d_Re_takeName_155 (lv_at hl 0 rfl) ?_
                  refine lv_iload hx hb d_Re_takeName_157 (lv_at hl 7 rfl) ?_
                  refine mw_cV (ci := 4) (k := 17) C0 (m_Re_isGoodPointer l D9 cB cI cJ cG a O _ _ t ((hsI 2 (by decide)).trans hT2) htl pos b (w9 % 16384) low (by omega) (by omega) (by omega) (by omega)) g_292 g_4 g_289 g_291 gs_Re_isGoodPointer ⟨by decide +kernel, by decide +kernel, show Option.map (fun d => d.parameters.length) (parseMethodDescriptor y_Re_isGoodPointer.desc) = some 4 by decide +kernel⟩ ⟨by decide, by decide⟩ rfl rfl hP hD hS hA rfl ww_17 hl.1 (Nat.le_of_ble_eq_true rfl) rfl d_Re_takeName_159 ⟨by decide, by decide⟩ (fun v9 w9 H locs hq hP hD hS => ?_)
                  obtain ⟨I40, F41, hw9, q42⟩ := hq
                  subst hw9
                  rcases q42 with ⟨g43, rfl, rfl, rfl⟩ | ⟨g43, rfl, s44, u45, rfl⟩
                  · refine lv_if_ne (tgt := 167) hx hb d_Re_takeName_162 (by decide) (fun c46 => ?_) (fun c46 => ?_)
                    · exfalso; omega
                    · exact absurd c46 (by decide)
                  · refine lv_if_ne (tgt := 167) hx hb d_Re_takeName_162 (by decide) (fun c47 => ?_) (fun c47 => ?_)
                    · exact absurd c47 (by decide)
                    · have hbad : t.length < pos + 2 ∨ rch t b none < pos + 2 ∨ low ≤ tg t pos := by exact Or.inl (by omega)
                      refine lv_iconst (v := 0) hx hb d_Re_takeName_165 (by decide) ?_
                      refine lv_topq (y := nI 0) (rfl) ?_
                      exact hret _ _ _ _ _ _ _ hS hP hD d_Re_takeName_166 (nr_z (Or.inl rfl)) (Or.inr ⟨(by rw [hR, rn_ptr c5 (by omega), if_pos hbad]; rfl), rfl, (sm_tr (sm_mo hsI (by decide)) (sm_mo s44 (by decide))), u45, (sm_mo hsF (by decide)), BR_pre hB⟩)
            · have c10 : tb t pos = 0 := (nI_eq (a := tb t pos) (b := 0) (by omega) (by omega)).mp c10
              refine lv_aload_n hx hb d_Re_takeName_73 rfl (lv_at hl 2 rfl) ?_
              refine va_get (D := D9) (ci := 4) (C := R_Re) (T := F_Re) (N := 8) hx hb hts i_Re hown hK hP 17 ww_17 rfl 1 (by decide) (hts _ g_121) (fun _ h9 => h9) rfl d_Re_takeName_74 ?_
              refine va_getN (D := D9) (ci := 2) (C := R_Ga) (T := F_Ga) (N := 11) hx hb hts i_Ga hown hK hP 19 ww_19 rfl 0 (by decide) (hts _ g_60) (fun _ h9 => h9) rfl d_Re_takeName_77 ?_
              refine lv_iconst (v := 0) hx hb d_Re_takeName_80 (by decide) ?_
              refine lv_topq (y := nI 0) (rfl) ?_
              refine mw_cVN (ci := 0) (k := 3) C0 (m_By_putL_gb l D9 cB cI cJ cG a O _ _ (L ++ acc) 0 (nI 0) hB h3 (by omega)) g_284 g_2 g_281 g_283 gs_By_put ⟨by decide +kernel, by decide +kernel, show Option.map (fun d => d.parameters.length) (parseMethodDescriptor y_By_put.desc) = some 1 by decide +kernel⟩ ⟨by decide, by decide⟩ rfl rfl hP hD hS hA rfl ww_3 hl.1 (Nat.le_of_ble_eq_true rfl) rfl d_Re_takeName_81 ⟨by decide, by decide⟩ (fun v9 w9 H locs hq hP hD hS => ?_)
              obtain ⟨I48, F49, hw9, q50⟩ := hq
              subst hw9
              obtain ⟨rfl, sI48, zI48, sF49, wF49⟩ := q50
              refine lv_aload_n hx hb d_Re_takeName_84 rfl (lv_at hl 2 rfl) ?_
              refine lv_iload hx hb d_Re_takeName_85 (lv_at hl 8 rfl) ?_
              refine lv_topq (y := nI 0) (rfl) ?_
              refine lv_if_eq (tgt := 97) hx hb d_Re_takeName_87 (by decide) (fun c51 => ?_) (fun c51 => ?_)
              · refine lv_iload_n hx hb d_Re_takeName_97 rfl (lv_at hl 5 rfl) ?_
                refine lv_iconst (v := 1) hx hb d_Re_takeName_98 (by decide) ?_
                refine lv_topq (y := nI 1) (rfl) ?_
                refine lv_iadd hx hb d_Re_takeName_99 ?_
                refine lv_topq (y := nI (pos + 1)) (nI_add _ _) ?_
                refine va_put (D := D9) (ty := .int) (ci := 4) (C := R_Re) (T := F_Re) (N := 8) hx hb hts i_Re t_Re t_Re_ok n_Re hown hK hP hD hS 17 ww_17 rfl 4 (by decide) (hts _ g_125) (fun _ h9 => h9) rfl (by decide +kernel) rfl rfl (Nat.le_of_ble_eq_true rfl) d_Re_takeName_100 (fun H locs hP hD hS => ?_)
                obtain ⟨I52, aI52, sI52, hP, hD⟩ := fx (P := fun z => va_P D9 cls9 (WW a cB cI cJ cG z _ O) H ∧ va_D A0 (WW a cB cI cJ cG z _ O)) ⟨wp_6 hP, wd_6 hD⟩
                refine lv_aload_n hx hb d_Re_takeName_103 rfl (lv_at hl 2 rfl) ?_
                refine va_get (D := D9) (ci := 4) (C := R_Re) (T := F_Re) (N := 8) hx hb hts i_Re hown hK hP 17 ww_17 rfl 4 (by decide) (hts _ g_125) (fun _ h9 => h9) rfl d_Re_takeName_104 ?_
                refine lv_topq (y := nI (pos + 1)) (aI52) ?_
                refine lv_iload_n hx hb d_Re_takeName_107 rfl (lv_at hl 4 rfl) ?_
                refine lv_icmp_le (tgt := 123) hx hb d_Re_takeName_108 (by decide) (fun c53 => ?_) (fun c53 => ?_)
                · have c53 : pos + 1 ≤ b := (nI_leI (a := pos + 1) (b := b) (by omega) (by omega)).mp c53
                  refine lv_iconst (v := 1) hx hb d_Re_takeName_123 (by decide) ?_
                  refine lv_topq (y := nI 1) (rfl) ?_
                  refine lv_goto (tgt := 128) hx hb d_Re_takeName_124 (by decide) ?_
                  exact hret _ _ _ _ _ _ _ hS hP hD d_Re_takeName_128 (nr_z (Or.inr rfl)) (Or.inl ⟨acc ++ [0], pos + 1, cc9 + 0, by rw [hR, rn_end c5 c10, if_pos (show Option.getD none (pos + 1) ≤ b from c53)]; rfl, rfl, (sm_tr (sm_tr (sm_mo hsI (by decide)) (sm_mo sI48 (by decide))) (sm_mo sI52 (by decide))), by rw [((sI52 3 (by decide)).trans zI48)]; exact congrArg nI (by simp only [List.length_append, List.length_singleton]; omega), aI52, (((sI52 7 (by decide)).trans (sI48 7 (by decide))).trans h7), (sm_tr (sm_mo hsF (by decide)) (sm_mo sF49 (by decide))), by rw [← List.append_assoc]; exact wF49⟩)
                · have c53 : ¬ (pos + 1 ≤ b) := fun z9 => c53 ((nI_leI (a := pos + 1) (b := b) (by omega) (by omega)).mpr z9)
                  refine lv_aload_n hx hb d_Re_takeName_111 rfl (lv_at hl 2 rfl) ?_
                  refine lv_iconst (v := 5) hx hb d_Re_takeName_112 (by decide) ?_
                  refine lv_topq (y := nI 5) (rfl) ?_
                  refine lv_aload_n hx hb d_Re_takeName_113 rfl (lv_at hl 2 rfl) ?_
                  refine va_get (D := D9) (ci := 4) (C := R_Re) (T := F_Re) (N := 8) hx hb hts i_Re hown hK hP 17 ww_17 rfl 7 (by decide) (hts _ g_130) (fun _ h9 => h9) rfl d_Re_takeName_114 ?_
                  refine mw_cV (ci := 4) (k := 17) C0 (m_Re_fail l D9 cB cI cJ cG a O _ _ (nI 5) _) g_267 g_4 g_264 g_266 gs_Re_fail ⟨by decide +kernel, by decide +kernel, show Option.map (fun d => d.parameters.length) (parseMethodDescriptor y_Re_fail.desc) = some 2 by decide +kernel⟩ ⟨by decide, by decide⟩ rfl rfl hP hD hS hA rfl ww_17 hl.1 (Nat.le_of_ble_eq_true rfl) rfl d_Re_takeName_117 ⟨by decide, by decide⟩ (fun v9 w9 H locs hq hP hD hS => ?_)
                  obtain ⟨I54, F55, hw9, q56⟩ := hq
                  subst hw9
                  obtain ⟨rfl, sI54, zI54, rfl⟩ := q56
                  refine lv_if_eq (tgt := 127) hx hb d_Re_takeName_120 (by decide) (fun c57 => ?_) (fun c57 => ?_)
                  · refine lv_iconst (v := 0) hx hb d_Re_takeName_127 (by decide) ?_
                    refine lv_topq (y := nI 0) (rfl) ?_
                    exact hret _ _ _ _ _ _ _ hS hP hD d_Re_takeName_128 (nr_z (Or.inl rfl)) (Or.inr ⟨(by rw [hR, rn_end c5 c10, if_neg (show ¬ (Option.getD none (pos + 1) ≤ b) from c53)]; rfl), rfl, (sm_tr (sm_tr (sm_tr (sm_mo hsI (by decide)) (sm_mo sI48 (by decide))) (sm_mo sI52 (by decide))) (sm_mo sI54 (by decide))), (by rw [zI54]; decide), (sm_tr (sm_mo hsF (by decide)) (sm_mo sF49 (by decide))), BR_pre (BR_pre wF49)⟩)
                  · exact absurd c57 (by decide)
              · exact absurd c51 (by decide)
          · have c9 : nx.isSome = true := bI_t c9
            obtain ⟨z, rfl⟩ : ∃ z, nx = some z := Option.isSome_iff_exists.mp c9
            obtain ⟨hz6, hzb⟩ := hnx z rfl
            refine lv_aload_n hx hb d_Re_takeName_55 rfl (lv_at hl 1 rfl) ?_
            refine va_get (D := D9) (ci := 4) (C := R_Re) (T := F_Re) (N := 8) hx hb hts i_Re hown hK hP 17 ww_17 rfl 0 (by decide) (hts _ g_120) (fun _ h9 => h9) rfl d_Re_takeName_56 ?_
            refine va_getN (D := D9) (ci := 0) (C := R_By) (T := F_By) (N := 2) hx hb hts i_By hown hK hP 1 ww_1 rfl 1 (by decide) (hts _ g_39) (fun _ h9 => h9) rfl d_Re_takeName_59 ?_
            refine lv_topq (y := nI t.length) (((hsI 2 (by decide)).trans hT2)) ?_
            refine lv_goto (tgt := 66) hx hb d_Re_takeName_62 (by decide) ?_
            refine lv_istore (lv' := [(9, _), (8, _), (0, _), (1, _), (2, _), (3, _), (4, _), (5, _), (6, _), (7, _)]) hx hb d_Re_takeName_66 hl (by decide) rfl (fun ls hl => ?_)
            refine lv_iload hx hb d_Re_takeName_68 (lv_at hl 1 rfl) ?_
            refine lv_if_ne (tgt := 129) hx hb d_Re_takeName_70 (by decide) (fun c58 => ?_) (fun c58 => ?_)
            · have c58 : ¬ (tb t pos = 0) := fun z9 => c58 ((nI_eq (a := tb t pos) (b := 0) (by omega) (by omega)).mpr z9)
              refine lv_iload hx hb d_Re_takeName_129 (lv_at hl 1 rfl) ?_
              refine lv_sipush (v := 192) hx hb d_Re_takeName_131 (by decide) ?_
              refine lv_topq (y := nI 192) (rfl) ?_
              refine lv_icmp_lt (tgt := 209) hx hb d_Re_takeName_134 (by decide) (fun c59 => ?_) (fun c59 => ?_)
              · have c59 : tb t pos < 192 := (nI_ltI (a := tb t pos) (b := 192) (by omega) (by omega)).mp c59
                refine lv_aload_n hx hb d_Re_takeName_209 rfl (lv_at hl 2 rfl) ?_
                refine lv_iload_n hx hb d_Re_takeName_210 rfl (lv_at hl 5 rfl) ?_
                refine lv_iload hx hb d_Re_takeName_211 (lv_at hl 1 rfl) ?_
                refine lv_iload hx hb d_Re_takeName_213 (lv_at hl 0 rfl) ?_
                refine lv_iload_n hx hb d_Re_takeName_215 rfl (lv_at hl 3 rfl) ?_
                refine lv_iload hx hb d_Re_takeName_216 (lv_at hl 7 rfl) ?_
                refine mw_cV (ci := 4) (k := 17) C0 (m_Re_isGoodLabel l D9 cB cI cJ cG a O _ _ t ((hsI 2 (by decide)).trans hT2) htl pos (tb t pos) t.length sz (nI st9) (by omega) (by omega) (by omega) (by omega)) g_296 g_4 g_293 g_295 gs_Re_isGoodLabel ⟨by decide +kernel, by decide +kernel, show Option.map (fun d => d.parameters.length) (parseMethodDescriptor y_Re_isGoodLabel.desc) = some 5 by decide +kernel⟩ ⟨by decide, by decide⟩ rfl rfl hP hD hS hA rfl ww_17 hl.1 (Nat.le_of_ble_eq_true rfl) rfl d_Re_takeName_218 ⟨by decide, by decide⟩ (fun v9 w9 H locs hq hP hD hS => ?_)
                obtain ⟨I60, F61, hw9, q62⟩ := hq
                subst hw9
                rcases q62 with ⟨g63, rfl, rfl, rfl⟩ | ⟨g63, rfl, s64, u65, rfl⟩
                · refine lv_if_ne (tgt := 226) hx hb d_Re_takeName_221 (by decide) (fun c66 => ?_) (fun c66 => ?_)
                  · have hgood : ¬ (63 < tb t pos ∨ 255 < sz + tb t pos + 2 ∨ t.length < pos + 1 + tb t pos ∨ rch t b (some z) < pos + 1 + tb t pos) := by show ¬ (_ ∨ _ ∨ _ ∨ t.length < _); omega
                    rw [rn_lab c5 c58 (by omega), if_neg hgood, rn_ml] at hR
                    refine lv_aload_n hx hb d_Re_takeName_226 rfl (lv_at hl 2 rfl) ?_
                    refine va_get (D := D9) (ci := 4) (C := R_Re) (T := F_Re) (N := 8) hx hb hts i_Re hown hK hP 17 ww_17 rfl 1 (by decide) (hts _ g_121) (fun _ h9 => h9) rfl d_Re_takeName_227 ?_
                    refine va_getN (D := D9) (ci := 2) (C := R_Ga) (T := F_Ga) (N := 11) hx hb hts i_Ga hown hK hP 19 ww_19 rfl 0 (by decide) (hts _ g_60) (fun _ h9 => h9) rfl d_Re_takeName_230 ?_
                    refine lv_aload_n hx hb d_Re_takeName_233 rfl (lv_at hl 2 rfl) ?_
                    refine va_get (D := D9) (ci := 4) (C := R_Re) (T := F_Re) (N := 8) hx hb hts i_Re hown hK hP 17 ww_17 rfl 0 (by decide) (hts _ g_120) (fun _ h9 => h9) rfl d_Re_takeName_234 ?_
                    refine lv_iload_n hx hb d_Re_takeName_237 rfl (lv_at hl 5 rfl) ?_
                    refine lv_iload hx hb d_Re_takeName_238 (lv_at hl 1 rfl) ?_
                    refine lv_iconst (v := 1) hx hb d_Re_takeName_240 (by decide) ?_
                    refine lv_topq (y := nI 1) (rfl) ?_
                    refine lv_iadd hx hb d_Re_takeName_241 ?_
                    refine lv_topq (y := nI (tb t pos + 1)) (nI_add _ _) ?_
                    refine mw_cVN (ci := 0) (k := 3) C0 (m_By_putFrom_gb_tp l D9 cB cI cJ cG a O _ _ (L ++ acc) t 0 pos (tb t pos + 1) hB hT9 h3 htl (by omega) (by omega)) g_300 g_2 g_297 g_299 gs_By_putFrom ⟨by decide +kernel, by decide +kernel, show Option.map (fun d => d.parameters.length) (parseMethodDescriptor y_By_putFrom.desc) = some 3 by decide +kernel⟩ ⟨by decide, by decide⟩ rfl rfl hP hD hS hA rfl ww_3 hl.1 (Nat.le_of_ble_eq_true rfl) rfl d_Re_takeName_242 ⟨by decide, by decide⟩ (fun v9 w9 H locs hq hP hD hS => ?_)
                    obtain ⟨I67, F68, hw9, q69⟩ := hq
                    subst hw9
                    obtain ⟨rfl, sI67, zI67, sF68, wF68⟩ := q69
                    refine lv_iload hx hb d_Re_takeName_245 (lv_at hl 7 rfl) ?_
                    refine lv_iload hx hb d_Re_takeName_247 (lv_at hl 1 rfl) ?_
                    refine lv_iconst (v := 1) hx hb d_Re_takeName_249 (by decide) ?_
                    refine lv_topq (y := nI 1) (rfl) ?_
                    refine lv_iadd hx hb d_Re_takeName_250 ?_
                    refine lv_topq (y := nI (tb t pos + 1)) (nI_add _ _) ?_
                    refine lv_iadd hx hb d_Re_takeName_251 ?_
                    refine lv_topq (y := nI (sz + (tb t pos + 1))) (nI_add _ _) ?_
                    refine lv_istore (lv' := [(5, _), (9, _), (8, _), (0, _), (1, _), (2, _), (3, _), (4, _), (6, _), (7, _)]) hx hb d_Re_takeName_252 hl (by decide) rfl (fun ls hl => ?_)
                    refine lv_iload_n hx hb d_Re_takeName_254 rfl (lv_at hl 6 rfl) ?_
                    refine lv_iload hx hb d_Re_takeName_255 (lv_at hl 2 rfl) ?_
                    refine lv_iconst (v := 1) hx hb d_Re_takeName_257 (by decide) ?_
                    refine lv_topq (y := nI 1) (rfl) ?_
                    refine lv_iadd hx hb d_Re_takeName_258 ?_
                    refine lv_topq (y := nI (tb t pos + 1)) (nI_add _ _) ?_
                    refine lv_iadd hx hb d_Re_takeName_259 ?_
                    refine lv_topq (y := nI (pos + (tb t pos + 1))) (nI_add _ _) ?_
                    refine lv_istore_n (lv' := [(3, _), (5, _), (9, _), (8, _), (0, _), (1, _), (2, _), (4, _), (6, _), (7, _)]) hx hb d_Re_takeName_260 rfl hl (by decide) rfl (fun ls hl => ?_)
                    refine lv_iinc (lv' := [(7, .int (nI (k + 1))), (3, _), (5, _), (9, _), (8, _), (0, _), (1, _), (2, _), (4, _), (6, _)]) hx hb d_Re_takeName_261 hl (k := 9) rfl (nI_add _ 1) (by decide) rfl (fun ls hl => ?_)
                    refine lv_goto (tgt := 14) hx hb d_Re_takeName_264 (by decide) ?_
                    exact ih _ (by omega) (k + 1) (pos + (tb t pos + 1)) low (sz + (tb t pos + 1)) (some z) cc9 (acc ++ sl9 t pos (tb t pos + 1)) _ _ _ _ _ (sm_tr (sm_mo hsI (by decide)) (sm_mo sI67 (by decide))) (sm_tr (sm_mo hsF (by decide)) (sm_mo sF68 (by decide))) rfl (by omega) hR ⟨by rw [List.length_append, sl9_len (by omega)]; omega, by omega⟩ ⟨by omega, by omega⟩ (fun y hy => by cases hy; exact ⟨((sI67 6 (by decide)).trans hz6), hzb⟩) (by rw [zI67]; exact congrArg nI (by simp only [List.length_append, sl9_len (show pos + (tb t pos + 1) ≤ t.length by omega)]; omega)) ((sI67 7 (by decide)).trans h7) (by rw [← List.append_assoc]; exact wF68) hP hD hS (lv_pk hl [5, 6, 7, 1, 8, 2, 9, 0] rfl)
                  · exact absurd c66 (by decide)
                · refine lv_if_ne (tgt := 226) hx hb d_Re_takeName_221 (by decide) (fun c70 => ?_) (fun c70 => ?_)
                  · exact absurd c70 (by decide)
                  · have hbad : 63 < tb t pos ∨ 255 < sz + tb t pos + 2 ∨ t.length < pos + 1 + tb t pos ∨ rch t b (some z) < pos + 1 + tb t pos := by show _ ∨ _ ∨ _ ∨ t.length < _; omega
                    refine lv_iconst (v := 0) hx hb d_Re_takeName_224 (by decide) ?_
                    refine lv_topq (y := nI 0) (rfl) ?_
                    exact hret _ _ _ _ _ _ _ hS hP hD d_Re_takeName_225 (nr_z (Or.inl rfl)) (Or.inr ⟨(by rw [hR, rn_lab c5 c58 (by omega), if_pos hbad]; rfl), rfl, (sm_tr (sm_mo hsI (by decide)) (sm_mo s64 (by decide))), u65, (sm_mo hsF (by decide)), BR_pre hB⟩)
              · have c59 : ¬ (tb t pos < 192) := fun z9 => c59 ((nI_ltI (a := tb t pos) (b := 192) (by omega) (by omega)).mpr z9)
                by_cases hp2 : pos + 2 ≤ t.length
                · have hby2 : tb t (pos + 1) < 256 := BR_lt hT (by omega) (by omega) (by omega)
                  have htg : tg t pos < 16384 := Nat.mod_lt _ (by decide)
                  refine lv_aload_n hx hb d_Re_takeName_137 rfl (lv_at hl 2 rfl) ?_
                  refine va_get (D := D9) (ci := 4) (C := R_Re) (T := F_Re) (N := 8) hx hb hts i_Re hown hK hP 17 ww_17 rfl 0 (by decide) (hts _ g_120) (fun _ h9 => h9) rfl d_Re_takeName_138 ?_
                  refine lv_iload_n hx hb d_Re_takeName_141 rfl (lv_at hl 5 rfl) ?_
                  refine mw_cVN (ci := 0) (k := 1) C0 (m_By_twoAtL_tp l D9 cB cI cJ cG a O _ _ t pos hT9 htl (by omega)) g_255 g_2 g_252 g_254 gs_By_twoAt ⟨by decide +kernel, by decide +kernel, show Option.map (fun d => d.parameters.length) (parseMethodDescriptor y_By_twoAt.desc) = some 1 by decide +kernel⟩ ⟨by decide, by decide⟩ rfl rfl hP hD hS hA rfl ww_1 hl.1 (Nat.le_of_ble_eq_true rfl) rfl d_Re_takeName_142 ⟨by decide, by decide⟩ (fun v9 w9 H locs hq hP hD hS => ?_)
                  obtain ⟨I71, F72, hw9, q73⟩ := hq
                  subst hw9
                  obtain ⟨rfl, rfl, rfl⟩ := q73
                  refine lv_sipush (v := 16383) hx hb d_Re_takeName_145 (by decide) ?_
                  refine lv_topq (y := nI 16383) (rfl) ?_
                  refine lv_iand hx hb d_Re_takeName_148 ?_
                  refine lv_topq (y := nI (tg t pos)) (pk_andN (by omega) 14 (by decide)) ?_
                  refine lv_istore (lv' := [(10, _), (9, _), (8, _), (0, _), (1, _), (2, _), (3, _), (4, _), (5, _), (6, _), (7, _)]) hx hb d_Re_takeName_149 hl (by decide) rfl (fun ls hl => ?_)
                  refine lv_aload_n hx hb d_Re_takeName_151 rfl (lv_at hl 3 rfl) ?_
                  refine lv_iload_n hx hb d_Re_takeName_152 rfl (lv_at hl 6 rfl) ?_
                  refine lv_iload hx hb d_Re_takeName_153 (lv_at hl 1 rfl) ?_
                  refine lv_iload hx hb d_Re_takeName_155 (lv_at hl 0 rfl) ?_
                  refine lv_iload hx hb d_Re_takeName_157 (lv_at hl 7 rfl) ?_
                  refine mw_cV (ci := 4) (k := 17) C0 (m_Re_isGoodPointer l D9 cB cI cJ cG a O _ _ t ((hsI 2 (by decide)).trans hT2) htl pos t.length (tg t pos) low (by omega) (by omega) (by omega) (by omega)) g_292 g_4 g_289 g_291 gs_Re_isGoodPointer ⟨by decide +kernel, by decide +kernel, show Option.map (fun d => d.parameters.length) (parseMethodDescriptor y_Re_isGoodPointer.desc) = some 4 by decide +kernel⟩ ⟨by decide, by decide⟩ rfl rfl hP hD hS hA rfl ww_17 hl.1 (Nat.le_of_ble_eq_true rfl) rfl d_Re_takeName_159 ⟨by decide, by decide⟩ (fun v9 w9 H locs hq hP hD hS => ?_)
                  obtain ⟨I74, F75, hw9, q76⟩ := hq
                  subst hw9
                  rcases q76 with ⟨g77, rfl, rfl, rfl⟩ | ⟨g77, rfl, s78, u79, rfl⟩
                  · refine lv_if_ne (tgt := 167) hx hb d_Re_takeName_162 (by decide) (fun c80 => ?_) (fun c80 => ?_)
                    · have hgood : ¬ (t.length < pos + 2 ∨ rch t b (some z) < pos + 2 ∨ low ≤ tg t pos) := by show ¬ (_ ∨ t.length < pos + 2 ∨ _); omega
                      rw [rn_ptr c5 (by omega), if_neg hgood, rn_mp] at hR
                      refine lv_aload_n hx hb d_Re_takeName_167 rfl (lv_at hl 3 rfl) ?_
                      refine lv_iload hx hb d_Re_takeName_168 (lv_at hl 9 rfl) ?_
                      refine lv_topq (y := nI 1) (rfl) ?_
                      refine lv_if_eq (tgt := 180) hx hb d_Re_takeName_170 (by decide) (fun c81 => ?_) (fun c81 => ?_)
                      · exact absurd c81 (by decide)
                      · refine lv_aload_n hx hb d_Re_takeName_173 rfl (lv_at hl 3 rfl) ?_
                        refine va_get (D := D9) (ci := 4) (C := R_Re) (T := F_Re) (N := 8) hx hb hts i_Re hown hK hP 17 ww_17 rfl 4 (by decide) (hts _ g_125) (fun _ h9 => h9) rfl d_Re_takeName_174 ?_
                        refine lv_topq (y := nI z) (hz6) ?_
                        refine lv_goto (tgt := 183) hx hb d_Re_takeName_177 (by decide) ?_
                        refine va_put (D := D9) (ty := .int) (ci := 4) (C := R_Re) (T := F_Re) (N := 8) hx hb hts i_Re t_Re t_Re_ok n_Re hown hK hP hD hS 17 ww_17 rfl 4 (by decide) (hts _ g_125) (fun _ h9 => h9) rfl (by decide +kernel) rfl rfl (Nat.le_of_ble_eq_true rfl) d_Re_takeName_183 (fun H locs hP hD hS => ?_)
                        obtain ⟨I82, aI82, sI82, hP, hD⟩ := fx (P := fun z => va_P D9 cls9 (WW a cB cI cJ cG z _ O) H ∧ va_D A0 (WW a cB cI cJ cG z _ O)) ⟨wp_6 hP, wd_6 hD⟩
                        refine lv_iconst (v := 1) hx hb d_Re_takeName_186 (by decide) ?_
                        refine lv_topq (y := nI 1) (rfl) ?_
                        refine lv_istore (lv' := [(6, _), (10, _), (9, _), (8, _), (0, _), (1, _), (2, _), (3, _), (4, _), (5, _), (7, _)]) hx hb d_Re_takeName_187 hl (by decide) rfl (fun ls hl => ?_)
                        refine lv_aload_n hx hb d_Re_takeName_189 rfl (lv_at hl 4 rfl) ?_
                        refine lv_dup hx hb d_Re_takeName_190 rfl ?_
                        refine va_get (D := D9) (ci := 4) (C := R_Re) (T := F_Re) (N := 8) hx hb hts i_Re hown hK hP 17 ww_17 rfl 5 (by decide) (hts _ g_126) (fun _ h9 => h9) rfl d_Re_takeName_191 ?_
                        refine lv_topq (y := nI (fw + cc9)) (((sI82 7 (by decide)).trans h7)) ?_
                        refine lv_iconst (v := 1) hx hb d_Re_takeName_194 (by decide) ?_
                        refine lv_topq (y := nI 1) (rfl) ?_
                        refine lv_iadd hx hb d_Re_takeName_195 ?_
                        refine lv_topq (y := nI (fw + cc9 + 1)) (nI_add _ _) ?_
                        refine va_put (D := D9) (ty := .int) (ci := 4) (C := R_Re) (T := F_Re) (N := 8) hx hb hts i_Re t_Re t_Re_ok n_Re hown hK hP hD hS 17 ww_17 rfl 5 (by decide) (hts _ g_126) (fun _ h9 => h9) rfl (by decide +kernel) rfl rfl (Nat.le_of_ble_eq_true rfl) d_Re_takeName_196 (fun H locs hP hD hS => ?_)
                        obtain ⟨I83, aI83, sI83, hP, hD⟩ := fx (P := fun z => va_P D9 cls9 (WW a cB cI cJ cG z _ O) H ∧ va_D A0 (WW a cB cI cJ cG z _ O)) ⟨wp_7 hP, wd_7 hD⟩
                        refine lv_iload hx hb d_Re_takeName_199 (lv_at hl 1 rfl) ?_
                        refine lv_istore (lv' := [(4, _), (6, _), (10, _), (9, _), (8, _), (0, _), (1, _), (2, _), (3, _), (5, _), (7, _)]) hx hb d_Re_takeName_201 hl (by decide) rfl (fun ls hl => ?_)
                        refine lv_iload hx hb d_Re_takeName_203 (lv_at hl 2 rfl) ?_
                        refine lv_istore_n (lv' := [(3, _), (4, _), (6, _), (10, _), (9, _), (8, _), (0, _), (1, _), (2, _), (5, _), (7, _)]) hx hb d_Re_takeName_205 rfl hl (by decide) rfl (fun ls hl => ?_)
                        refine lv_goto (tgt := 261) hx hb d_Re_takeName_206 (by decide) ?_
                        refine lv_iinc (lv' := [(7, .int (nI (k + 1))), (3, _), (4, _), (6, _), (10, _), (9, _), (8, _), (0, _), (1, _), (2, _), (5, _)]) hx hb d_Re_takeName_261 hl (k := 10) rfl (nI_add _ 1) (by decide) rfl (fun ls hl => ?_)
                        refine lv_goto (tgt := 14) hx hb d_Re_takeName_264 (by decide) ?_
                        exact ih _ (by omega) (k + 1) (tg t pos) (tg t pos) sz (some z) (cc9 + 1) acc _ _ _ _ _ (sm_tr (sm_tr (sm_mo hsI (by decide)) (sm_mo sI82 (by decide))) (sm_mo sI83 (by decide))) (sm_mo hsF (by decide)) rfl (by omega) hR hz ⟨by omega, by omega⟩ (fun y hy => by cases hy; exact ⟨((sI83 6 (by decide)).trans aI82), by omega⟩) (((sI83 3 (by decide)).trans (sI82 3 (by decide))).trans h3) aI83 hB hP hD hS (lv_pk hl [7, 8, 9, 1, 2, 10, 3, 0] rfl)
                    · exact absurd c80 (by decide)
                  · refine lv_if_ne (tgt := 167) hx hb d_Re_takeName_162 (by decide) (fun c84 => ?_) (fun c84 => ?_)
                    · exact absurd c84 (by decide)
                    · have hbad : t.length < pos + 2 ∨ rch t b (some z) < pos + 2 ∨ low ≤ tg t pos := by show _ ∨ t.length < pos + 2 ∨ _; omega
                      refine lv_iconst (v := 0) hx hb d_Re_takeName_165 (by decide) ?_
                      refine lv_topq (y := nI 0) (rfl) ?_
                      exact hret _ _ _ _ _ _ _ hS hP hD d_Re_takeName_166 (nr_z (Or.inl rfl)) (Or.inr ⟨(by rw [hR, rn_ptr c5 (by omega), if_pos hbad]; rfl), rfl, (sm_tr (sm_mo hsI (by decide)) (sm_mo s78 (by decide))), u79, (sm_mo hsF (by decide)), BR_pre hB⟩)
                · refine lv_aload_n hx hb d_Re_takeName_137 rfl (lv_at hl 2 rfl) ?_
                  refine va_get (D := D9) (ci := 4) (C := R_Re) (T := F_Re) (N := 8) hx hb hts i_Re hown hK hP 17 ww_17 rfl 0 (by decide) (hts _ g_120) (fun _ h9 => h9) rfl d_Re_takeName_138 ?_
                  refine lv_iload_n hx hb d_Re_takeName_141 rfl (lv_at hl 5 rfl) ?_
                  refine mw_cVN (ci := 0) (k := 1) C0 (m_By_twoAt_tp l D9 cB cI cJ cG a O _ _ _) g_255 g_2 g_252 g_254 gs_By_twoAt ⟨by decide +kernel, by decide +kernel, show Option.map (fun d => d.parameters.length) (parseMethodDescriptor y_By_twoAt.desc) = some 1 by decide +kernel⟩ ⟨by decide, by decide⟩ rfl rfl hP hD hS hA rfl ww_1 hl.1 (Nat.le_of_ble_eq_true rfl) rfl d_Re_takeName_142 ⟨by decide, by decide⟩ (fun v9 w9 H locs hq hP hD hS => ?_)
                  obtain ⟨I85, F86, hw9, q87⟩ := hq
                  subst hw9
                  obtain ⟨rfl, rfl, rfl⟩ := q87
                  obtain ⟨w9, hw9, ew9⟩ := bt2_ex (F9 2) (nI pos)
                  refine lv_topq (y := nI w9) (ew9) ?_
                  refine lv_sipush (v := 16383) hx hb d_Re_takeName_145 (by decide) ?_
                  refine lv_topq (y := nI 16383) (rfl) ?_
                  refine lv_iand hx hb d_Re_takeName_148 ?_
                  refine lv_topq (y := nI (w9 % 16384)) (pk_andN (by omega) 14 (by decide)) ?_
                  refine lv_istore (lv' := [(10, _), (9, _), (8, _), (0, _), (1, _), (2, _), (3, _), (4, _), (5, _), (6, _), (7, _)]) hx hb d_Re_takeName_149 hl (by decide) rfl (fun ls hl => ?_)
                  refine lv_aload_n hx hb d_Re_takeName_151 rfl (lv_at hl 3 rfl) ?_
                  refine lv_iload_n hx hb d_Re_takeName_152 rfl (lv_at hl 6 rfl) ?_
                  refine lv_iload hx hb d_Re_takeName_153 (lv_at hl 1 rfl) ?_
                  refine lv_iload hx hb d_Re_takeName_155 (lv_at hl 0 rfl) ?_
                  refine lv_iload hx hb d_Re_takeName_157 (lv_at hl 7 rfl) ?_
                  refine mw_cV (ci := 4) (k := 17) C0 (m_Re_isGoodPointer l D9 cB cI cJ cG a O _ _ t ((hsI 2 (by decide)).trans hT2) htl pos t.length (w9 % 16384) low (by omega) (by omega) (by omega) (by omega)) g_292 g_4 g_289 g_291 gs_Re_isGoodPointer ⟨by decide +kernel, by decide +kernel, show Option.map (fun d => d.parameters.length) (parseMethodDescriptor y_Re_isGoodPointer.desc) = some 4 by decide +kernel⟩ ⟨by decide, by decide⟩ rfl rfl hP hD hS hA rfl ww_17 hl.1 (Nat.le_of_ble_eq_true rfl) rfl d_Re_takeName_159 ⟨by decide, by decide⟩ (fun v9 w9 H locs hq hP hD hS => ?_)
                  obtain ⟨I88, F89, hw9, q90⟩ := hq
                  subst hw9
                  rcases q90 with ⟨g91, rfl, rfl, rfl⟩ | ⟨g91, rfl, s92, u93, rfl⟩
                  · refine lv_if_ne (tgt := 167) hx hb d_Re_takeName_162 (by decide) (fun c94 => ?_) (fun c94 => ?_)
                    · exfalso; omega
                    · exact absurd c94 (by decide)
                  · refine lv_if_ne (tgt := 167) hx hb d_Re_takeName_162 (by decide) (fun c95 => ?_) (fun c95 => ?_)
                    · exact absurd c95 (by decide)
                    · have hbad : t.length < pos + 2 ∨ rch t b (some z) < pos + 2 ∨ low ≤ tg t pos := by exact Or.inl (by omega)
                      refine lv_iconst (v := 0) hx hb d_Re_takeName_165 (by decide) ?_
                      refine lv_topq (y := nI 0) (rfl) ?_
                      exact hret _ _ _ _ _ _ _ hS hP hD d_Re_takeName_166 (nr_z (Or.inl rfl)) (Or.inr ⟨(by rw [hR, rn_ptr c5 (by omega), if_pos hbad]; rfl), rfl, (sm_tr (sm_mo hsI (by decide)) (sm_mo s92 (by decide))), u93, (sm_mo hsF (by decide)), BR_pre hB⟩)
            · have c58 : tb t pos = 0 := (nI_eq (a := tb t pos) (b := 0) (by omega) (by omega)).mp c58
              refine lv_aload_n hx hb d_Re_takeName_73 rfl (lv_at hl 2 rfl) ?_
              refine va_get (D := D9) (ci := 4) (C := R_Re) (T := F_Re) (N := 8) hx hb hts i_Re hown hK hP 17 ww_17 rfl 1 (by decide) (hts _ g_121) (fun _ h9 => h9) rfl d_Re_takeName_74 ?_
              refine va_getN (D := D9) (ci := 2) (C := R_Ga) (T := F_Ga) (N := 11) hx hb hts i_Ga hown hK hP 19 ww_19 rfl 0 (by decide) (hts _ g_60) (fun _ h9 => h9) rfl d_Re_takeName_77 ?_
              refine lv_iconst (v := 0) hx hb d_Re_takeName_80 (by decide) ?_
              refine lv_topq (y := nI 0) (rfl) ?_
              refine mw_cVN (ci := 0) (k := 3) C0 (m_By_putL_gb l D9 cB cI cJ cG a O _ _ (L ++ acc) 0 (nI 0) hB h3 (by omega)) g_284 g_2 g_281 g_283 gs_By_put ⟨by decide +kernel, by decide +kernel, show Option.map (fun d => d.parameters.length) (parseMethodDescriptor y_By_put.desc) = some 1 by decide +kernel⟩ ⟨by decide, by decide⟩ rfl rfl hP hD hS hA rfl ww_3 hl.1 (Nat.le_of_ble_eq_true rfl) rfl d_Re_takeName_81 ⟨by decide, by decide⟩ (fun v9 w9 H locs hq hP hD hS => ?_)
              obtain ⟨I96, F97, hw9, q98⟩ := hq
              subst hw9
              obtain ⟨rfl, sI96, zI96, sF97, wF97⟩ := q98
              refine lv_aload_n hx hb d_Re_takeName_84 rfl (lv_at hl 2 rfl) ?_
              refine lv_iload hx hb d_Re_takeName_85 (lv_at hl 8 rfl) ?_
              refine lv_topq (y := nI 1) (rfl) ?_
              refine lv_if_eq (tgt := 97) hx hb d_Re_takeName_87 (by decide) (fun c99 => ?_) (fun c99 => ?_)
              · exact absurd c99 (by decide)
              · refine lv_aload_n hx hb d_Re_takeName_90 rfl (lv_at hl 2 rfl) ?_
                refine va_get (D := D9) (ci := 4) (C := R_Re) (T := F_Re) (N := 8) hx hb hts i_Re hown hK hP 17 ww_17 rfl 4 (by decide) (hts _ g_125) (fun _ h9 => h9) rfl d_Re_takeName_91 ?_
                refine lv_topq (y := nI z) (((sI96 6 (by decide)).trans hz6)) ?_
                refine lv_goto (tgt := 100) hx hb d_Re_takeName_94 (by decide) ?_
                refine va_put (D := D9) (ty := .int) (ci := 4) (C := R_Re) (T := F_Re) (N := 8) hx hb hts i_Re t_Re t_Re_ok n_Re hown hK hP hD hS 17 ww_17 rfl 4 (by decide) (hts _ g_125) (fun _ h9 => h9) rfl (by decide +kernel) rfl rfl (Nat.le_of_ble_eq_true rfl) d_Re_takeName_100 (fun H locs hP hD hS => ?_)
                obtain ⟨I100, aI100, sI100, hP, hD⟩ := fx (P := fun z => va_P D9 cls9 (WW a cB cI cJ cG z _ O) H ∧ va_D A0 (WW a cB cI cJ cG z _ O)) ⟨wp_6 hP, wd_6 hD⟩
                refine lv_aload_n hx hb d_Re_takeName_103 rfl (lv_at hl 2 rfl) ?_
                refine va_get (D := D9) (ci := 4) (C := R_Re) (T := F_Re) (N := 8) hx hb hts i_Re hown hK hP 17 ww_17 rfl 4 (by decide) (hts _ g_125) (fun _ h9 => h9) rfl d_Re_takeName_104 ?_
                refine lv_topq (y := nI z) (aI100) ?_
                refine lv_iload_n hx hb d_Re_takeName_107 rfl (lv_at hl 4 rfl) ?_
                refine lv_icmp_le (tgt := 123) hx hb d_Re_takeName_108 (by decide) (fun c101 => ?_) (fun c101 => ?_)
                · have c101 : z ≤ b := (nI_leI (a := z) (b := b) (by omega) (by omega)).mp c101
                  refine lv_iconst (v := 1) hx hb d_Re_takeName_123 (by decide) ?_
                  refine lv_topq (y := nI 1) (rfl) ?_
                  refine lv_goto (tgt := 128) hx hb d_Re_takeName_124 (by decide) ?_
                  exact hret _ _ _ _ _ _ _ hS hP hD d_Re_takeName_128 (nr_z (Or.inr rfl)) (Or.inl ⟨acc ++ [0], z, cc9 + 0, by rw [hR, rn_end c5 c58, if_pos (show Option.getD (some z) (pos + 1) ≤ b from c101)]; rfl, rfl, (sm_tr (sm_tr (sm_mo hsI (by decide)) (sm_mo sI96 (by decide))) (sm_mo sI100 (by decide))), by rw [((sI100 3 (by decide)).trans zI96)]; exact congrArg nI (by simp only [List.length_append, List.length_singleton]; omega), aI100, (((sI100 7 (by decide)).trans (sI96 7 (by decide))).trans h7), (sm_tr (sm_mo hsF (by decide)) (sm_mo sF97 (by decide))), by rw [← List.append_assoc]; exact wF97⟩)
                · have c101 : ¬ (z ≤ b) := fun z9 => c101 ((nI_leI (a := z) (b := b) (by omega) (by omega)).mpr z9)
                  refine lv_aload_n hx hb d_Re_takeName_111 rfl (lv_at hl 2 rfl) ?_
                  refine lv_iconst (v := 5) hx hb d_Re_takeName_112 (by decide) ?_
                  refine lv_topq (y := nI 5) (rfl) ?_
                  refine lv_aload_n hx hb d_Re_takeName_113 rfl (lv_at hl 2 rfl) ?_
                  refine va_get (D := D9) (ci := 4) (C := R_Re) (T := F_Re) (N := 8) hx hb hts i_Re hown hK hP 17 ww_17 rfl 7 (by decide) (hts _ g_130) (fun _ h9 => h9) rfl d_Re_takeName_114 ?_
                  refine mw_cV (ci := 4) (k := 17) C0 (m_Re_fail l D9 cB cI cJ cG a O _ _ (nI 5) _) g_267 g_4 g_264 g_266 gs_Re_fail ⟨by decide +kernel, by decide +kernel, show Option.map (fun d => d.parameters.length) (parseMethodDescriptor y_Re_fail.desc) = some 2 by decide +kernel⟩ ⟨by decide, by decide⟩ rfl rfl hP hD hS hA rfl ww_17 hl.1 (Nat.le_of_ble_eq_true rfl) rfl d_Re_takeName_117 ⟨by decide, by decide⟩ (fun v9 w9 H locs hq hP hD hS => ?_)
                  obtain ⟨I102, F103, hw9, q104⟩ := hq
                  subst hw9
                  obtain ⟨rfl, sI102, zI102, rfl⟩ := q104
                  refine lv_if_eq (tgt := 127) hx hb d_Re_takeName_120 (by decide) (fun c105 => ?_) (fun c105 => ?_)
                  · refine lv_iconst (v := 0) hx hb d_Re_takeName_127 (by decide) ?_
                    refine lv_topq (y := nI 0) (rfl) ?_
                    exact hret _ _ _ _ _ _ _ hS hP hD d_Re_takeName_128 (nr_z (Or.inl rfl)) (Or.inr ⟨(by rw [hR, rn_end c5 c58, if_neg (show ¬ (Option.getD (some z) (pos + 1) ≤ b) from c101)]; rfl), rfl, (sm_tr (sm_tr (sm_tr (sm_mo hsI (by decide)) (sm_mo sI96 (by decide))) (sm_mo sI100 (by decide))) (sm_mo sI102 (by decide))), (by rw [zI102]; decide), (sm_tr (sm_mo hsF (by decide)) (sm_mo sF97 (by decide))), BR_pre (BR_pre wF97)⟩)
                  · exact absurd c105 (by decide)
        · have c5 : ¬ (pos < t.length) := fun z9 => c5 ((nI_ltI (a := pos) (b := t.length) (by omega) (by omega)).mpr z9)
          refine lv_aload_n hx hb d_Re_takeName_33 rfl (lv_at hl 0 rfl) ?_
          refine lv_iconst (v := 1) hx hb d_Re_takeName_34 (by decide) ?_
          refine lv_topq (y := nI 1) (rfl) ?_
          refine lv_iload_n hx hb d_Re_takeName_35 rfl (lv_at hl 3 rfl) ?_
          refine mw_cV (ci := 4) (k := 17) C0 (m_Re_fail l D9 cB cI cJ cG a O _ _ (nI 1) _) g_267 g_4 g_264 g_266 gs_Re_fail ⟨by decide +kernel, by decide +kernel, show Option.map (fun d => d.parameters.length) (parseMethodDescriptor y_Re_fail.desc) = some 2 by decide +kernel⟩ ⟨by decide, by decide⟩ rfl rfl hP hD hS hA rfl ww_17 hl.1 (Nat.le_of_ble_eq_true rfl) rfl d_Re_takeName_36 ⟨by decide, by decide⟩ (fun v9 w9 H locs hq hP hD hS => ?_)
          obtain ⟨I106, F107, hw9, q108⟩ := hq
          subst hw9
          obtain ⟨rfl, sI106, zI106, rfl⟩ := q108
          exact hret _ _ _ _ _ _ _ hS hP hD d_Re_takeName_39 (nr_z (Or.inl rfl)) (Or.inr ⟨(by rw [hR, rn_short (by omega)]; rfl), rfl, (sm_tr (sm_mo hsI (by decide)) (sm_mo sI106 (by decide))), (by rw [zI106]; decide), (sm_mo hsF (by decide)), BR_pre hB⟩)
  exact loop1 _ 0 st9 st9 0 none 0 [] _ _ _ _ _ sm_rf sm_rf rfl (Nat.zero_le _) (rn_id _) ⟨rfl, by decide⟩ ⟨hst9, hst9⟩ (fun z hz => by cases hz) (by rw [List.append_nil]; exact hL3) hfw (by rw [List.append_nil]; exact hBL) hP hD hS (lv_pk hl [5, 6, 7, 4, 3, 2, 1, 0] rfl)
end
section
/-! DATA ON THE TAPE -/
def se : Nat → List Nat → Nat → Nat → Bool
  | 0, _, _, _ => false
  | f + 1, t, at9, to => if at9 < to then se f t (at9 + (1 + tb t at9)) to else decide (at9 = to)
def strs (t : List Nat) (fr to : Nat) : Bool := decide (fr < to) && se (to - fr + 1) t fr to
def fxo (ty n : Nat) : Bool := if ty = 1 then decide (n = 4) else if ty = 28 then decide (n = 16) else true
def asT (t : List Nat) (ty fr to ol : Nat) : Bool := if ty = 16 then strs t fr to else if ty = 41 then decide (ol = 1) else fxo ty (to - fr)
def rdF (t : List Nat) (ty to : Nat) (l : List Nat) (e c : Nat) : Option (List Nat × Nat) := if (0 < c ∧ k_sh ty = false) ∨ e + k_bh ty ≠ to then none else some (l ++ sl9 t e (k_bh ty), c)
def rdN (t : List Nat) (ty fr to : Nat) : Option (List Nat × Nat) :=
  if to < fr + k_bf ty then none else
  match rn 16639 t to (fr + k_bf ty) (fr + k_bf ty) 0 none with
  | none => none
  | some (n1, e1, c1) => if k_nm ty = 1 then rdF t ty to (sl9 t fr (k_bf ty) ++ n1) e1 c1 else
    match rn 16639 t to e1 e1 0 none with
    | none => none
    | some (n2, e2, c2) => rdF t ty to (sl9 t fr (k_bf ty) ++ n1 ++ n2) e2 (c1 + c2)
def rdD (t : List Nat) (ty fr to ol : Nat) : Option (List Nat × Nat) := if 0 < k_nm ty then rdN t ty fr to else if asT t ty fr to ol = true then some (sl9 t fr (to - fr), 0) else none
theorem k_bf_le (ty : Nat) : k_bf ty ≤ 6 := by unfold k_bf; split; omega; split <;> omega
theorem k_bh_le (ty : Nat) : k_bh ty ≤ 20 := by unfold k_bh; split <;> omega
theorem k_nm_12 {ty : Nat} (h : 0 < k_nm ty) : k_nm ty = 1 ∨ k_nm ty = 2 := by
  unfold k_nm at h ⊢
  split
  · exact Or.inl rfl
  · split
    · exact Or.inr rfl
    · rename_i h1 h2; rw [if_neg h1, if_neg h2] at h; omega
theorem rdN_short {t : List Nat} {ty fr to : Nat} (h : to < fr + k_bf ty) : rdN t ty fr to = none := by unfold rdN; rw [if_pos h]
theorem rdN_n1 {t : List Nat} {ty fr to : Nat} (h : ¬ to < fr + k_bf ty) (h1 : rn 16639 t to (fr + k_bf ty) (fr + k_bf ty) 0 none = none) : rdN t ty fr to = none := by unfold rdN; rw [if_neg h, h1]
theorem rdN_1 {t : List Nat} {ty fr to : Nat} {n1 : List Nat} {e1 c1 : Nat} (h : ¬ to < fr + k_bf ty) (h1 : rn 16639 t to (fr + k_bf ty) (fr + k_bf ty) 0 none = some (n1, e1, c1)) (hk : k_nm ty = 1) : rdN t ty fr to = rdF t ty to (sl9 t fr (k_bf ty) ++ n1) e1 c1 := by unfold rdN; rw [if_neg h, h1]; simp only; rw [if_pos hk]
theorem rdN_n2 {t : List Nat} {ty fr to : Nat} {n1 : List Nat} {e1 c1 : Nat} (h : ¬ to < fr + k_bf ty) (h1 : rn 16639 t to (fr + k_bf ty) (fr + k_bf ty) 0 none = some (n1, e1, c1)) (hk : k_nm ty = 2) (h2 : rn 16639 t to e1 e1 0 none = none) : rdN t ty fr to = none := by unfold rdN; rw [if_neg h, h1]; simp only; rw [if_neg (by omega), h2]
theorem rdN_2 {t : List Nat} {ty fr to : Nat} {n1 n2 : List Nat} {e1 c1 e2 c2 : Nat} (h : ¬ to < fr + k_bf ty) (h1 : rn 16639 t to (fr + k_bf ty) (fr + k_bf ty) 0 none = some (n1, e1, c1)) (hk : k_nm ty = 2) (h2 : rn 16639 t to e1 e1 0 none = some (n2, e2, c2)) : rdN t ty fr to = rdF t ty to (sl9 t fr (k_bf ty) ++ n1 ++ n2) e2 (c1 + c2) := by unfold rdN; rw [if_neg h, h1]; simp only; rw [if_neg (by omega), h2]
theorem rdF_bd {t : List Nat} {ty to : Nat} {l d : List Nat} {e c c' : Nat} (h : rdF t ty to l e c = some (d, c')) : d.length ≤ l.length + 20 := by
  unfold rdF at h
  split at h
  · cases h
  · simp only [Option.some.injEq, Prod.mk.injEq] at h
    rw [← h.1, List.length_append]
    have h1 : (sl9 t e (k_bh ty)).length ≤ k_bh ty := by unfold sl9; rw [List.length_take]; omega
    have := k_bh_le ty
    omega
theorem sl9_le (t : List Nat) (p k : Nat) : (sl9 t p k).length ≤ k := by unfold sl9; rw [List.length_take]; omega
theorem rdN_bd {t : List Nat} {ty fr to : Nat} {d : List Nat} {c : Nat} (h : rdN t ty fr to = some (d, c)) : d.length ≤ 600 := by
  have kb := k_bf_le ty
  have s1 := sl9_le t fr (k_bf ty)
  unfold rdN at h
  split at h
  · cases h
  · split at h
    · cases h
    · rename_i n1 e1 c1 h1
      have b1 := rn_bd h1 (by decide)
      split at h
      · have := rdF_bd h
        rw [List.length_append] at this
        omega
      · split at h
        · cases h
        · rename_i n2 e2 c2 h2
          have b2 := rn_bd h2 (by decide)
          have := rdF_bd h
          rw [List.length_append, List.length_append] at this
          omega
theorem rdD_bd {t : List Nat} {ty fr to ol : Nat} {d : List Nat} {c : Nat} (h : rdD t ty fr to ol = some (d, c)) : d.length ≤ 600 + (to - fr) := by
  unfold rdD at h
  split at h
  · have := rdN_bd h; omega
  · split at h
    · simp only [Option.some.injEq, Prod.mk.injEq] at h
      rw [← h.1]
      have := sl9_le t fr (to - fr)
      omega
    · cases h
theorem g_128 : (Cond.fieldLink "WireMessages$Reader" (65 : Nat) "WireMessages$Reader" "ownerLength" "I") ∈ GT := gt_mem 128 (by decide +kernel) rfl
theorem g_276 : (Cond.methodLink "WireMessages$Reader" (82 : Nat) ({ cls := "WireMessages$Reader", name := "takeName", desc := "(II)Z" } : MethodName)) ∈ GT := gt_mem 276 (by decide +kernel) rfl
theorem g_278 : (Cond.instanceMethod ({ cls := "WireMessages$Reader", name := "takeName", desc := "(II)Z" } : MethodName)) ∈ GT := gt_mem 278 (by decide +kernel) rfl
theorem g_279 : (Cond.code ({ cls := "WireMessages$Reader", name := "takeName", desc := "(II)Z" } : MethodName) prog_7_method_10_code (11 : Nat) (Option.some FieldType.boolean)) ∈ GT := gt_mem 279 (by decide +kernel) rfl
theorem g_328 : (Cond.methodLinkNest "WireMessages$Reader" (107 : Nat) ({ cls := "WireMessages$Kinds", name := "namesIn", desc := "(I)I" } : MethodName) "WireMessages") ∈ GT := gt_mem 328 (by decide +kernel) rfl
theorem g_331 : (Cond.methodLink "WireMessages$Reader" (112 : Nat) ({ cls := "WireMessages$Reader", name := "takeDataWithNames", desc := "(III)Z" } : MethodName)) ∈ GT := gt_mem 331 (by decide +kernel) rfl
theorem g_333 : (Cond.instanceMethod ({ cls := "WireMessages$Reader", name := "takeDataWithNames", desc := "(III)Z" } : MethodName)) ∈ GT := gt_mem 333 (by decide +kernel) rfl
theorem g_334 : (Cond.code ({ cls := "WireMessages$Reader", name := "takeDataWithNames", desc := "(III)Z" } : MethodName) prog_7_method_16_code (9 : Nat) (Option.some FieldType.boolean)) ∈ GT := gt_mem 334 (by decide +kernel) rfl
theorem g_335 : (Cond.methodLinkNest "WireMessages$Reader" (124 : Nat) ({ cls := "WireMessages$Kinds", name := "bytesBeforeNames", desc := "(I)I" } : MethodName) "WireMessages") ∈ GT := gt_mem 335 (by decide +kernel) rfl
theorem g_336 : (Cond.static ({ cls := "WireMessages$Kinds", name := "bytesBeforeNames", desc := "(I)I" } : MethodName)) ∈ GT := gt_mem 336 (by decide +kernel) rfl
theorem g_337 : (Cond.code ({ cls := "WireMessages$Kinds", name := "bytesBeforeNames", desc := "(I)I" } : MethodName) prog_5_method_4_code (1 : Nat) (Option.some FieldType.int)) ∈ GT := gt_mem 337 (by decide +kernel) rfl
theorem g_338 : (Cond.methodLinkNest "WireMessages$Reader" (127 : Nat) ({ cls := "WireMessages$Kinds", name := "bytesBehindNames", desc := "(I)I" } : MethodName) "WireMessages") ∈ GT := gt_mem 338 (by decide +kernel) rfl
theorem g_339 : (Cond.static ({ cls := "WireMessages$Kinds", name := "bytesBehindNames", desc := "(I)I" } : MethodName)) ∈ GT := gt_mem 339 (by decide +kernel) rfl
theorem g_340 : (Cond.code ({ cls := "WireMessages$Kinds", name := "bytesBehindNames", desc := "(I)I" } : MethodName) prog_5_method_5_code (1 : Nat) (Option.some FieldType.int)) ∈ GT := gt_mem 340 (by decide +kernel) rfl
theorem g_341 : (Cond.methodLinkNest "WireMessages$Reader" (130 : Nat) ({ cls := "WireMessages$Kinds", name := "sharesNames", desc := "(I)Z" } : MethodName) "WireMessages") ∈ GT := gt_mem 341 (by decide +kernel) rfl
theorem g_342 : (Cond.static ({ cls := "WireMessages$Kinds", name := "sharesNames", desc := "(I)Z" } : MethodName)) ∈ GT := gt_mem 342 (by decide +kernel) rfl
theorem g_343 : (Cond.code ({ cls := "WireMessages$Kinds", name := "sharesNames", desc := "(I)Z" } : MethodName) prog_5_method_6_code (1 : Nat) (Option.some FieldType.boolean)) ∈ GT := gt_mem 343 (by decide +kernel) rfl
theorem g_345 : (Cond.methodLink "WireMessages$Reader" (115 : Nat) ({ cls := "WireMessages$Reader", name := "isAsItsType", desc := "(III)Z" } : MethodName)) ∈ GT := gt_mem 345 (by decide +kernel) rfl
theorem g_347 : (Cond.instanceMethod ({ cls := "WireMessages$Reader", name := "isAsItsType", desc := "(III)Z" } : MethodName)) ∈ GT := gt_mem 347 (by decide +kernel) rfl
theorem g_348 : (Cond.code ({ cls := "WireMessages$Reader", name := "isAsItsType", desc := "(III)Z" } : MethodName) prog_7_method_14_code (5 : Nat) (Option.some FieldType.boolean)) ∈ GT := gt_mem 348 (by decide +kernel) rfl
theorem g_349 : (Cond.methodLink "WireMessages$Reader" (118 : Nat) ({ cls := "WireMessages$Reader", name := "areStrings", desc := "(II)Z" } : MethodName)) ∈ GT := gt_mem 349 (by decide +kernel) rfl
theorem g_351 : (Cond.instanceMethod ({ cls := "WireMessages$Reader", name := "areStrings", desc := "(II)Z" } : MethodName)) ∈ GT := gt_mem 351 (by decide +kernel) rfl
theorem g_352 : (Cond.code ({ cls := "WireMessages$Reader", name := "areStrings", desc := "(II)Z" } : MethodName) prog_7_method_15_code (4 : Nat) (Option.some FieldType.boolean)) ∈ GT := gt_mem 352 (by decide +kernel) rfl
theorem g_353 : (Cond.methodLinkNest "WireMessages$Reader" (121 : Nat) ({ cls := "WireMessages$Kinds", name := "fixedSize", desc := "(I)I" } : MethodName) "WireMessages") ∈ GT := gt_mem 353 (by decide +kernel) rfl
theorem g_354 : (Cond.static ({ cls := "WireMessages$Kinds", name := "fixedSize", desc := "(I)I" } : MethodName)) ∈ GT := gt_mem 354 (by decide +kernel) rfl
theorem g_355 : (Cond.code ({ cls := "WireMessages$Kinds", name := "fixedSize", desc := "(I)I" } : MethodName) prog_5_method_2_code (1 : Nat) (Option.some FieldType.int)) ∈ GT := gt_mem 355 (by decide +kernel) rfl
theorem gs_Re_takeName : Cond.selects R_Re y_Re_takeName y_Re_takeName ∈ GT := gt_sel (q := (⟨"WireMessages$Reader", "takeName", "(II)Z"⟩, 8)) (by decide +kernel)
theorem gs_Re_areStrings : Cond.selects R_Re y_Re_areStrings y_Re_areStrings ∈ GT := gt_sel (q := (⟨"WireMessages$Reader", "areStrings", "(II)Z"⟩, 8)) (by decide +kernel)
theorem gs_Re_isAsItsType : Cond.selects R_Re y_Re_isAsItsType y_Re_isAsItsType ∈ GT := gt_sel (q := (⟨"WireMessages$Reader", "isAsItsType", "(III)Z"⟩, 8)) (by decide +kernel)
theorem gs_Re_takeDataWithNames : Cond.selects R_Re y_Re_takeDataWithNames y_Re_takeDataWithNames ∈ GT := gt_sel (q := (⟨"WireMessages$Reader", "takeDataWithNames", "(III)Z"⟩, 8)) (by decide +kernel)
theorem d_Re_areStrings_0 : decode b_Re_areStrings 0 = .ok (.iload_n 1, 1) := by decide +kernel
theorem d_Re_areStrings_1 : decode b_Re_areStrings 1 = .ok (.istore_n 3, 1) := by decide +kernel
theorem d_Re_areStrings_2 : decode b_Re_areStrings 2 = .ok (.iload_n 3, 1) := by decide +kernel
theorem d_Re_areStrings_3 : decode b_Re_areStrings 3 = .ok (.iload_n 2, 1) := by decide +kernel
theorem d_Re_areStrings_4 : decode b_Re_areStrings 4 = .ok (.if_icmp .ge 19, 3) := by decide +kernel
theorem d_Re_areStrings_7 : decode b_Re_areStrings 7 = .ok (.iload_n 3, 1) := by decide +kernel
theorem d_Re_areStrings_8 : decode b_Re_areStrings 8 = .ok (.iconst 1, 1) := by decide +kernel
theorem d_Re_areStrings_9 : decode b_Re_areStrings 9 = .ok (.aload_n 0, 1) := by decide +kernel
theorem d_Re_areStrings_10 : decode b_Re_areStrings 10 = .ok (.getfield 9, 3) := by decide +kernel
theorem d_Re_areStrings_13 : decode b_Re_areStrings 13 = .ok (.iload_n 3, 1) := by decide +kernel
theorem d_Re_areStrings_14 : decode b_Re_areStrings 14 = .ok (.invokevirtual 85, 3) := by decide +kernel
theorem d_Re_areStrings_17 : decode b_Re_areStrings 17 = .ok (.iadd, 1) := by decide +kernel
theorem d_Re_areStrings_18 : decode b_Re_areStrings 18 = .ok (.iadd, 1) := by decide +kernel
theorem d_Re_areStrings_19 : decode b_Re_areStrings 19 = .ok (.istore_n 3, 1) := by decide +kernel
theorem d_Re_areStrings_20 : decode b_Re_areStrings 20 = .ok (.goto (-18), 3) := by decide +kernel
theorem d_Re_areStrings_23 : decode b_Re_areStrings 23 = .ok (.iload_n 1, 1) := by decide +kernel
theorem d_Re_areStrings_24 : decode b_Re_areStrings 24 = .ok (.iload_n 2, 1) := by decide +kernel
theorem d_Re_areStrings_25 : decode b_Re_areStrings 25 = .ok (.if_icmp .ge 12, 3) := by decide +kernel
theorem d_Re_areStrings_28 : decode b_Re_areStrings 28 = .ok (.iload_n 3, 1) := by decide +kernel
theorem d_Re_areStrings_29 : decode b_Re_areStrings 29 = .ok (.iload_n 2, 1) := by decide +kernel
theorem d_Re_areStrings_30 : decode b_Re_areStrings 30 = .ok (.if_icmp .ne 7, 3) := by decide +kernel
theorem d_Re_areStrings_33 : decode b_Re_areStrings 33 = .ok (.iconst 1, 1) := by decide +kernel
theorem d_Re_areStrings_34 : decode b_Re_areStrings 34 = .ok (.goto 4, 3) := by decide +kernel
theorem d_Re_areStrings_37 : decode b_Re_areStrings 37 = .ok (.iconst 0, 1) := by decide +kernel
theorem d_Re_areStrings_38 : decode b_Re_areStrings 38 = .ok (.ireturn, 1) := by decide +kernel
theorem d_Re_isAsItsType_0 : decode b_Re_isAsItsType 0 = .ok (.iload_n 1, 1) := by decide +kernel
theorem d_Re_isAsItsType_1 : decode b_Re_isAsItsType 1 = .ok (.bipush 16, 2) := by decide +kernel
theorem d_Re_isAsItsType_3 : decode b_Re_isAsItsType 3 = .ok (.if_icmp .ne 10, 3) := by decide +kernel
theorem d_Re_isAsItsType_6 : decode b_Re_isAsItsType 6 = .ok (.aload_n 0, 1) := by decide +kernel
theorem d_Re_isAsItsType_7 : decode b_Re_isAsItsType 7 = .ok (.iload_n 2, 1) := by decide +kernel
theorem d_Re_isAsItsType_8 : decode b_Re_isAsItsType 8 = .ok (.iload_n 3, 1) := by decide +kernel
theorem d_Re_isAsItsType_9 : decode b_Re_isAsItsType 9 = .ok (.invokevirtual 118, 3) := by decide +kernel
theorem d_Re_isAsItsType_12 : decode b_Re_isAsItsType 12 = .ok (.ireturn, 1) := by decide +kernel
theorem d_Re_isAsItsType_13 : decode b_Re_isAsItsType 13 = .ok (.iload_n 1, 1) := by decide +kernel
theorem d_Re_isAsItsType_14 : decode b_Re_isAsItsType 14 = .ok (.bipush 41, 2) := by decide +kernel
theorem d_Re_isAsItsType_16 : decode b_Re_isAsItsType 16 = .ok (.if_icmp .ne 17, 3) := by decide +kernel
theorem d_Re_isAsItsType_19 : decode b_Re_isAsItsType 19 = .ok (.aload_n 0, 1) := by decide +kernel
theorem d_Re_isAsItsType_20 : decode b_Re_isAsItsType 20 = .ok (.getfield 65, 3) := by decide +kernel
theorem d_Re_isAsItsType_23 : decode b_Re_isAsItsType 23 = .ok (.iconst 1, 1) := by decide +kernel
theorem d_Re_isAsItsType_24 : decode b_Re_isAsItsType 24 = .ok (.if_icmp .ne 7, 3) := by decide +kernel
theorem d_Re_isAsItsType_27 : decode b_Re_isAsItsType 27 = .ok (.iconst 1, 1) := by decide +kernel
theorem d_Re_isAsItsType_28 : decode b_Re_isAsItsType 28 = .ok (.goto 4, 3) := by decide +kernel
theorem d_Re_isAsItsType_31 : decode b_Re_isAsItsType 31 = .ok (.iconst 0, 1) := by decide +kernel
theorem d_Re_isAsItsType_32 : decode b_Re_isAsItsType 32 = .ok (.ireturn, 1) := by decide +kernel
theorem d_Re_isAsItsType_33 : decode b_Re_isAsItsType 33 = .ok (.iload_n 1, 1) := by decide +kernel
theorem d_Re_isAsItsType_34 : decode b_Re_isAsItsType 34 = .ok (.invokestatic 121, 3) := by decide +kernel
theorem d_Re_isAsItsType_37 : decode b_Re_isAsItsType 37 = .ok (.istore 4, 2) := by decide +kernel
theorem d_Re_isAsItsType_39 : decode b_Re_isAsItsType 39 = .ok (.iload 4, 2) := by decide +kernel
theorem d_Re_isAsItsType_41 : decode b_Re_isAsItsType 41 = .ok (.ifCond .lt 11, 3) := by decide +kernel
theorem d_Re_isAsItsType_44 : decode b_Re_isAsItsType 44 = .ok (.iload 4, 2) := by decide +kernel
theorem d_Re_isAsItsType_46 : decode b_Re_isAsItsType 46 = .ok (.iload_n 3, 1) := by decide +kernel
theorem d_Re_isAsItsType_47 : decode b_Re_isAsItsType 47 = .ok (.iload_n 2, 1) := by decide +kernel
theorem d_Re_isAsItsType_48 : decode b_Re_isAsItsType 48 = .ok (.isub, 1) := by decide +kernel
theorem d_Re_isAsItsType_49 : decode b_Re_isAsItsType 49 = .ok (.if_icmp .ne 7, 3) := by decide +kernel
theorem d_Re_isAsItsType_52 : decode b_Re_isAsItsType 52 = .ok (.iconst 1, 1) := by decide +kernel
theorem d_Re_isAsItsType_53 : decode b_Re_isAsItsType 53 = .ok (.goto 4, 3) := by decide +kernel
theorem d_Re_isAsItsType_56 : decode b_Re_isAsItsType 56 = .ok (.iconst 0, 1) := by decide +kernel
theorem d_Re_isAsItsType_57 : decode b_Re_isAsItsType 57 = .ok (.ireturn, 1) := by decide +kernel
theorem d_Re_takeBackTo_0 : decode b_Re_takeBackTo 0 = .ok (.aload_n 0, 1) := by decide +kernel
theorem d_Re_takeBackTo_1 : decode b_Re_takeBackTo 1 = .ok (.getfield 15, 3) := by decide +kernel
theorem d_Re_takeBackTo_4 : decode b_Re_takeBackTo 4 = .ok (.getfield 59, 3) := by decide +kernel
theorem d_Re_takeBackTo_7 : decode b_Re_takeBackTo 7 = .ok (.iload_n 1, 1) := by decide +kernel
theorem d_Re_takeBackTo_8 : decode b_Re_takeBackTo 8 = .ok (.putfield 44, 3) := by decide +kernel
theorem d_Re_takeBackTo_11 : decode b_Re_takeBackTo 11 = .ok (.iconst 0, 1) := by decide +kernel
theorem d_Re_takeBackTo_12 : decode b_Re_takeBackTo 12 = .ok (.ireturn, 1) := by decide +kernel
theorem d_Re_takeData_0 : decode b_Re_takeData 0 = .ok (.aload_n 0, 1) := by decide +kernel
theorem d_Re_takeData_1 : decode b_Re_takeData 1 = .ok (.iload_n 2, 1) := by decide +kernel
theorem d_Re_takeData_2 : decode b_Re_takeData 2 = .ok (.putfield 92, 3) := by decide +kernel
theorem d_Re_takeData_5 : decode b_Re_takeData 5 = .ok (.iload_n 1, 1) := by decide +kernel
theorem d_Re_takeData_6 : decode b_Re_takeData 6 = .ok (.invokestatic 107, 3) := by decide +kernel
theorem d_Re_takeData_9 : decode b_Re_takeData 9 = .ok (.ifCond .le 11, 3) := by decide +kernel
theorem d_Re_takeData_12 : decode b_Re_takeData 12 = .ok (.aload_n 0, 1) := by decide +kernel
theorem d_Re_takeData_13 : decode b_Re_takeData 13 = .ok (.iload_n 1, 1) := by decide +kernel
theorem d_Re_takeData_14 : decode b_Re_takeData 14 = .ok (.iload_n 2, 1) := by decide +kernel
theorem d_Re_takeData_15 : decode b_Re_takeData 15 = .ok (.iload_n 3, 1) := by decide +kernel
theorem d_Re_takeData_16 : decode b_Re_takeData 16 = .ok (.invokevirtual 112, 3) := by decide +kernel
theorem d_Re_takeData_19 : decode b_Re_takeData 19 = .ok (.ireturn, 1) := by decide +kernel
theorem d_Re_takeData_20 : decode b_Re_takeData 20 = .ok (.aload_n 0, 1) := by decide +kernel
theorem d_Re_takeData_21 : decode b_Re_takeData 21 = .ok (.iload_n 1, 1) := by decide +kernel
theorem d_Re_takeData_22 : decode b_Re_takeData 22 = .ok (.iload_n 2, 1) := by decide +kernel
theorem d_Re_takeData_23 : decode b_Re_takeData 23 = .ok (.iload_n 3, 1) := by decide +kernel
theorem d_Re_takeData_24 : decode b_Re_takeData 24 = .ok (.invokevirtual 115, 3) := by decide +kernel
theorem d_Re_takeData_27 : decode b_Re_takeData 27 = .ok (.ifCond .ne 10, 3) := by decide +kernel
theorem d_Re_takeData_30 : decode b_Re_takeData 30 = .ok (.aload_n 0, 1) := by decide +kernel
theorem d_Re_takeData_31 : decode b_Re_takeData 31 = .ok (.iconst 5, 1) := by decide +kernel
theorem d_Re_takeData_32 : decode b_Re_takeData 32 = .ok (.iload_n 2, 1) := by decide +kernel
theorem d_Re_takeData_33 : decode b_Re_takeData 33 = .ok (.invokevirtual 47, 3) := by decide +kernel
theorem d_Re_takeData_36 : decode b_Re_takeData 36 = .ok (.ireturn, 1) := by decide +kernel
theorem d_Re_takeData_37 : decode b_Re_takeData 37 = .ok (.aload_n 0, 1) := by decide +kernel
theorem d_Re_takeData_38 : decode b_Re_takeData 38 = .ok (.getfield 15, 3) := by decide +kernel
theorem d_Re_takeData_41 : decode b_Re_takeData 41 = .ok (.getfield 59, 3) := by decide +kernel
theorem d_Re_takeData_44 : decode b_Re_takeData 44 = .ok (.aload_n 0, 1) := by decide +kernel
theorem d_Re_takeData_45 : decode b_Re_takeData 45 = .ok (.getfield 9, 3) := by decide +kernel
theorem d_Re_takeData_48 : decode b_Re_takeData 48 = .ok (.iload_n 2, 1) := by decide +kernel
theorem d_Re_takeData_49 : decode b_Re_takeData 49 = .ok (.iload_n 3, 1) := by decide +kernel
theorem d_Re_takeData_50 : decode b_Re_takeData 50 = .ok (.iload_n 2, 1) := by decide +kernel
theorem d_Re_takeData_51 : decode b_Re_takeData 51 = .ok (.isub, 1) := by decide +kernel
theorem d_Re_takeData_52 : decode b_Re_takeData 52 = .ok (.invokevirtual 103, 3) := by decide +kernel
theorem d_Re_takeData_55 : decode b_Re_takeData 55 = .ok (.iconst 1, 1) := by decide +kernel
theorem d_Re_takeData_56 : decode b_Re_takeData 56 = .ok (.ireturn, 1) := by decide +kernel
theorem d_Re_takeDataWithNames_0 : decode b_Re_takeDataWithNames 0 = .ok (.iload_n 1, 1) := by decide +kernel
theorem d_Re_takeDataWithNames_1 : decode b_Re_takeDataWithNames 1 = .ok (.invokestatic 124, 3) := by decide +kernel
theorem d_Re_takeDataWithNames_4 : decode b_Re_takeDataWithNames 4 = .ok (.istore 4, 2) := by decide +kernel
theorem d_Re_takeDataWithNames_6 : decode b_Re_takeDataWithNames 6 = .ok (.iload_n 1, 1) := by decide +kernel
theorem d_Re_takeDataWithNames_7 : decode b_Re_takeDataWithNames 7 = .ok (.invokestatic 127, 3) := by decide +kernel
theorem d_Re_takeDataWithNames_10 : decode b_Re_takeDataWithNames 10 = .ok (.istore 5, 2) := by decide +kernel
theorem d_Re_takeDataWithNames_12 : decode b_Re_takeDataWithNames 12 = .ok (.iload_n 1, 1) := by decide +kernel
theorem d_Re_takeDataWithNames_13 : decode b_Re_takeDataWithNames 13 = .ok (.invokestatic 107, 3) := by decide +kernel
theorem d_Re_takeDataWithNames_16 : decode b_Re_takeDataWithNames 16 = .ok (.istore 6, 2) := by decide +kernel
theorem d_Re_takeDataWithNames_18 : decode b_Re_takeDataWithNames 18 = .ok (.aload_n 0, 1) := by decide +kernel
theorem d_Re_takeDataWithNames_19 : decode b_Re_takeDataWithNames 19 = .ok (.getfield 26, 3) := by decide +kernel
theorem d_Re_takeDataWithNames_22 : decode b_Re_takeDataWithNames 22 = .ok (.istore 7, 2) := by decide +kernel
theorem d_Re_takeDataWithNames_24 : decode b_Re_takeDataWithNames 24 = .ok (.iload_n 2, 1) := by decide +kernel
theorem d_Re_takeDataWithNames_25 : decode b_Re_takeDataWithNames 25 = .ok (.iload 4, 2) := by decide +kernel
theorem d_Re_takeDataWithNames_27 : decode b_Re_takeDataWithNames 27 = .ok (.iadd, 1) := by decide +kernel
theorem d_Re_takeDataWithNames_28 : decode b_Re_takeDataWithNames 28 = .ok (.iload_n 3, 1) := by decide +kernel
theorem d_Re_takeDataWithNames_29 : decode b_Re_takeDataWithNames 29 = .ok (.if_icmp .le 10, 3) := by decide +kernel
theorem d_Re_takeDataWithNames_32 : decode b_Re_takeDataWithNames 32 = .ok (.aload_n 0, 1) := by decide +kernel
theorem d_Re_takeDataWithNames_33 : decode b_Re_takeDataWithNames 33 = .ok (.iconst 5, 1) := by decide +kernel
theorem d_Re_takeDataWithNames_34 : decode b_Re_takeDataWithNames 34 = .ok (.iload_n 2, 1) := by decide +kernel
theorem d_Re_takeDataWithNames_35 : decode b_Re_takeDataWithNames 35 = .ok (.invokevirtual 47, 3) := by decide +kernel
theorem d_Re_takeDataWithNames_38 : decode b_Re_takeDataWithNames 38 = .ok (.ireturn, 1) := by decide +kernel
theorem d_Re_takeDataWithNames_39 : decode b_Re_takeDataWithNames 39 = .ok (.aload_n 0, 1) := by decide +kernel
theorem d_Re_takeDataWithNames_40 : decode b_Re_takeDataWithNames 40 = .ok (.getfield 15, 3) := by decide +kernel
theorem d_Re_takeDataWithNames_43 : decode b_Re_takeDataWithNames 43 = .ok (.getfield 59, 3) := by decide +kernel
theorem d_Re_takeDataWithNames_46 : decode b_Re_takeDataWithNames 46 = .ok (.aload_n 0, 1) := by decide +kernel
theorem d_Re_takeDataWithNames_47 : decode b_Re_takeDataWithNames 47 = .ok (.getfield 9, 3) := by decide +kernel
theorem d_Re_takeDataWithNames_50 : decode b_Re_takeDataWithNames 50 = .ok (.iload_n 2, 1) := by decide +kernel
theorem d_Re_takeDataWithNames_51 : decode b_Re_takeDataWithNames 51 = .ok (.iload 4, 2) := by decide +kernel
theorem d_Re_takeDataWithNames_53 : decode b_Re_takeDataWithNames 53 = .ok (.invokevirtual 103, 3) := by decide +kernel
theorem d_Re_takeDataWithNames_56 : decode b_Re_takeDataWithNames 56 = .ok (.aload_n 0, 1) := by decide +kernel
theorem d_Re_takeDataWithNames_57 : decode b_Re_takeDataWithNames 57 = .ok (.iload_n 2, 1) := by decide +kernel
theorem d_Re_takeDataWithNames_58 : decode b_Re_takeDataWithNames 58 = .ok (.iload 4, 2) := by decide +kernel
theorem d_Re_takeDataWithNames_60 : decode b_Re_takeDataWithNames 60 = .ok (.iadd, 1) := by decide +kernel
theorem d_Re_takeDataWithNames_61 : decode b_Re_takeDataWithNames 61 = .ok (.putfield 41, 3) := by decide +kernel
theorem d_Re_takeDataWithNames_64 : decode b_Re_takeDataWithNames 64 = .ok (.iconst 0, 1) := by decide +kernel
theorem d_Re_takeDataWithNames_65 : decode b_Re_takeDataWithNames 65 = .ok (.istore 8, 2) := by decide +kernel
theorem d_Re_takeDataWithNames_67 : decode b_Re_takeDataWithNames 67 = .ok (.iload 8, 2) := by decide +kernel
theorem d_Re_takeDataWithNames_69 : decode b_Re_takeDataWithNames 69 = .ok (.iload 6, 2) := by decide +kernel
theorem d_Re_takeDataWithNames_71 : decode b_Re_takeDataWithNames 71 = .ok (.if_icmp .ge 23, 3) := by decide +kernel
theorem d_Re_takeDataWithNames_74 : decode b_Re_takeDataWithNames 74 = .ok (.aload_n 0, 1) := by decide +kernel
theorem d_Re_takeDataWithNames_75 : decode b_Re_takeDataWithNames 75 = .ok (.aload_n 0, 1) := by decide +kernel
theorem d_Re_takeDataWithNames_76 : decode b_Re_takeDataWithNames 76 = .ok (.getfield 41, 3) := by decide +kernel
theorem d_Re_takeDataWithNames_79 : decode b_Re_takeDataWithNames 79 = .ok (.iload_n 3, 1) := by decide +kernel
theorem d_Re_takeDataWithNames_80 : decode b_Re_takeDataWithNames 80 = .ok (.invokevirtual 82, 3) := by decide +kernel
theorem d_Re_takeDataWithNames_83 : decode b_Re_takeDataWithNames 83 = .ok (.ifCond .ne 5, 3) := by decide +kernel
theorem d_Re_takeDataWithNames_86 : decode b_Re_takeDataWithNames 86 = .ok (.iconst 0, 1) := by decide +kernel
theorem d_Re_takeDataWithNames_87 : decode b_Re_takeDataWithNames 87 = .ok (.ireturn, 1) := by decide +kernel
theorem d_Re_takeDataWithNames_88 : decode b_Re_takeDataWithNames 88 = .ok (.iinc 8 1, 3) := by decide +kernel
theorem d_Re_takeDataWithNames_91 : decode b_Re_takeDataWithNames 91 = .ok (.goto (-24), 3) := by decide +kernel
theorem d_Re_takeDataWithNames_94 : decode b_Re_takeDataWithNames 94 = .ok (.aload_n 0, 1) := by decide +kernel
theorem d_Re_takeDataWithNames_95 : decode b_Re_takeDataWithNames 95 = .ok (.getfield 26, 3) := by decide +kernel
theorem d_Re_takeDataWithNames_98 : decode b_Re_takeDataWithNames 98 = .ok (.iload 7, 2) := by decide +kernel
theorem d_Re_takeDataWithNames_100 : decode b_Re_takeDataWithNames 100 = .ok (.if_icmp .le 14, 3) := by decide +kernel
theorem d_Re_takeDataWithNames_103 : decode b_Re_takeDataWithNames 103 = .ok (.iload_n 1, 1) := by decide +kernel
theorem d_Re_takeDataWithNames_104 : decode b_Re_takeDataWithNames 104 = .ok (.invokestatic 130, 3) := by decide +kernel
theorem d_Re_takeDataWithNames_107 : decode b_Re_takeDataWithNames 107 = .ok (.ifCond .ne 7, 3) := by decide +kernel
theorem d_Re_takeDataWithNames_110 : decode b_Re_takeDataWithNames 110 = .ok (.iconst 1, 1) := by decide +kernel
theorem d_Re_takeDataWithNames_111 : decode b_Re_takeDataWithNames 111 = .ok (.goto 4, 3) := by decide +kernel
theorem d_Re_takeDataWithNames_114 : decode b_Re_takeDataWithNames 114 = .ok (.iconst 0, 1) := by decide +kernel
theorem d_Re_takeDataWithNames_115 : decode b_Re_takeDataWithNames 115 = .ok (.istore 8, 2) := by decide +kernel
theorem d_Re_takeDataWithNames_117 : decode b_Re_takeDataWithNames 117 = .ok (.iload 8, 2) := by decide +kernel
theorem d_Re_takeDataWithNames_119 : decode b_Re_takeDataWithNames 119 = .ok (.ifCond .ne 14, 3) := by decide +kernel
theorem d_Re_takeDataWithNames_122 : decode b_Re_takeDataWithNames 122 = .ok (.aload_n 0, 1) := by decide +kernel
theorem d_Re_takeDataWithNames_123 : decode b_Re_takeDataWithNames 123 = .ok (.getfield 41, 3) := by decide +kernel
theorem d_Re_takeDataWithNames_126 : decode b_Re_takeDataWithNames 126 = .ok (.iload 5, 2) := by decide +kernel
theorem d_Re_takeDataWithNames_128 : decode b_Re_takeDataWithNames 128 = .ok (.iadd, 1) := by decide +kernel
theorem d_Re_takeDataWithNames_129 : decode b_Re_takeDataWithNames 129 = .ok (.iload_n 3, 1) := by decide +kernel
theorem d_Re_takeDataWithNames_130 : decode b_Re_takeDataWithNames 130 = .ok (.if_icmp .eq 10, 3) := by decide +kernel
theorem d_Re_takeDataWithNames_133 : decode b_Re_takeDataWithNames 133 = .ok (.aload_n 0, 1) := by decide +kernel
theorem d_Re_takeDataWithNames_134 : decode b_Re_takeDataWithNames 134 = .ok (.iconst 5, 1) := by decide +kernel
theorem d_Re_takeDataWithNames_135 : decode b_Re_takeDataWithNames 135 = .ok (.iload_n 2, 1) := by decide +kernel
theorem d_Re_takeDataWithNames_136 : decode b_Re_takeDataWithNames 136 = .ok (.invokevirtual 47, 3) := by decide +kernel
theorem d_Re_takeDataWithNames_139 : decode b_Re_takeDataWithNames 139 = .ok (.ireturn, 1) := by decide +kernel
theorem d_Re_takeDataWithNames_140 : decode b_Re_takeDataWithNames 140 = .ok (.aload_n 0, 1) := by decide +kernel
theorem d_Re_takeDataWithNames_141 : decode b_Re_takeDataWithNames 141 = .ok (.getfield 15, 3) := by decide +kernel
theorem d_Re_takeDataWithNames_144 : decode b_Re_takeDataWithNames 144 = .ok (.getfield 59, 3) := by decide +kernel
theorem d_Re_takeDataWithNames_147 : decode b_Re_takeDataWithNames 147 = .ok (.aload_n 0, 1) := by decide +kernel
theorem d_Re_takeDataWithNames_148 : decode b_Re_takeDataWithNames 148 = .ok (.getfield 9, 3) := by decide +kernel
theorem d_Re_takeDataWithNames_151 : decode b_Re_takeDataWithNames 151 = .ok (.aload_n 0, 1) := by decide +kernel
theorem d_Re_takeDataWithNames_152 : decode b_Re_takeDataWithNames 152 = .ok (.getfield 41, 3) := by decide +kernel
theorem d_Re_takeDataWithNames_155 : decode b_Re_takeDataWithNames 155 = .ok (.iload 5, 2) := by decide +kernel
theorem d_Re_takeDataWithNames_157 : decode b_Re_takeDataWithNames 157 = .ok (.invokevirtual 103, 3) := by decide +kernel
theorem d_Re_takeDataWithNames_160 : decode b_Re_takeDataWithNames 160 = .ok (.iconst 1, 1) := by decide +kernel
theorem d_Re_takeDataWithNames_161 : decode b_Re_takeDataWithNames 161 = .ok (.ireturn, 1) := by decide +kernel
theorem d_Re_takeOwner_0 : decode b_Re_takeOwner 0 = .ok (.aload_n 0, 1) := by decide +kernel
theorem d_Re_takeOwner_1 : decode b_Re_takeOwner 1 = .ok (.getfield 15, 3) := by decide +kernel
theorem d_Re_takeOwner_4 : decode b_Re_takeOwner 4 = .ok (.getfield 59, 3) := by decide +kernel
theorem d_Re_takeOwner_7 : decode b_Re_takeOwner 7 = .ok (.getfield 44, 3) := by decide +kernel
theorem d_Re_takeOwner_10 : decode b_Re_takeOwner 10 = .ok (.istore_n 2, 1) := by decide +kernel
theorem d_Re_takeOwner_11 : decode b_Re_takeOwner 11 = .ok (.aload_n 0, 1) := by decide +kernel
theorem d_Re_takeOwner_12 : decode b_Re_takeOwner 12 = .ok (.iload_n 1, 1) := by decide +kernel
theorem d_Re_takeOwner_13 : decode b_Re_takeOwner 13 = .ok (.aload_n 0, 1) := by decide +kernel
theorem d_Re_takeOwner_14 : decode b_Re_takeOwner 14 = .ok (.getfield 9, 3) := by decide +kernel
theorem d_Re_takeOwner_17 : decode b_Re_takeOwner 17 = .ok (.getfield 44, 3) := by decide +kernel
theorem d_Re_takeOwner_20 : decode b_Re_takeOwner 20 = .ok (.invokevirtual 82, 3) := by decide +kernel
theorem d_Re_takeOwner_23 : decode b_Re_takeOwner 23 = .ok (.istore_n 3, 1) := by decide +kernel
theorem d_Re_takeOwner_24 : decode b_Re_takeOwner 24 = .ok (.aload_n 0, 1) := by decide +kernel
theorem d_Re_takeOwner_25 : decode b_Re_takeOwner 25 = .ok (.aload_n 0, 1) := by decide +kernel
theorem d_Re_takeOwner_26 : decode b_Re_takeOwner 26 = .ok (.getfield 15, 3) := by decide +kernel
theorem d_Re_takeOwner_29 : decode b_Re_takeOwner 29 = .ok (.getfield 59, 3) := by decide +kernel
theorem d_Re_takeOwner_32 : decode b_Re_takeOwner 32 = .ok (.getfield 44, 3) := by decide +kernel
theorem d_Re_takeOwner_35 : decode b_Re_takeOwner 35 = .ok (.iload_n 2, 1) := by decide +kernel
theorem d_Re_takeOwner_36 : decode b_Re_takeOwner 36 = .ok (.isub, 1) := by decide +kernel
theorem d_Re_takeOwner_37 : decode b_Re_takeOwner 37 = .ok (.putfield 65, 3) := by decide +kernel
theorem d_Re_takeOwner_40 : decode b_Re_takeOwner 40 = .ok (.iload_n 3, 1) := by decide +kernel
theorem d_Re_takeOwner_41 : decode b_Re_takeOwner 41 = .ok (.ireturn, 1) := by decide +kernel
set_option maxHeartbeats 4000000 in
set_option maxRecDepth 100000 in
/-- Reader.takeOwner -/
theorem m_Re_takeOwner (l : Launch) (D9 : va_G) (cB cI cJ cG : ClassId) (a : Nat → Nat) (O : Nat → Int64) (I : Nat → Int32) (F : Nat → Nat → Int32) (t : List Nat) (hT2 : I 2 = nI t.length) (htl : t.length ≤ 65536) (hT : BR 0 65536 (F 2) t) (L : List Nat) (st9 fw : Nat) (hL3 : I 3 = nI L.length) (hLb : L.length < 400000) (hBL : BR 0 65536 (F 4) L) (hst9 : st9 ≤ 65536) (hfw : I 7 = nI fw) : MC l D9 cB cI cJ cG a O y_Re_takeOwner b_Re_takeOwner 4 (some .boolean) 3 [.ref (a 17), .int (nI st9)] I F (fun v I' F' => (∃ nm e c, rn 16639 t t.length st9 st9 0 none = some (nm, e, c) ∧ v = some (.int (nI 1)) ∧ sm [3, 6, 7, 8] I I' ∧ I' 3 = nI (L ++ nm).length ∧ I' 6 = nI e ∧ I' 7 = nI (fw + c) ∧ I' 8 = nI nm.length ∧ sm [4] F F' ∧ BR 0 65536 (F' 4) (L ++ nm)) ∨ (rn 16639 t t.length st9 st9 0 none = none ∧ v = some (.int (nI 0)) ∧ sm [3, 4, 5, 6, 7, 8] I I' ∧ ¬ I' 4 = 0 ∧ sm [4] F F' ∧ BR 0 65536 (F' 4) L)) := by
  refine mc_of (by decide) (Nat.le_of_ble_eq_true rfl) ?_
  intro p e s m below meth c ls A0 Q C0 hP hD hA hS hl hret
  obtain ⟨hx, hb, hml, hr, hlocks, hown, hts, hK⟩ := id C0
  have hl : lv_has ls 4 [(0, .ref (a 17)), (1, .int (nI st9))] := hl
  refine lv_aload_n hx hb d_Re_takeOwner_0 rfl (lv_at hl 0 rfl) ?_
  refine va_get (D := D9) (ci := 4) (C := R_Re) (T := F_Re) (N := 8) hx hb hts i_Re hown hK hP 17 ww_17 rfl 1 (by decide) (hts _ g_121) (fun _ h9 => h9) rfl d_Re_takeOwner_1 ?_
  refine va_getN (D := D9) (ci := 2) (C := R_Ga) (T := F_Ga) (N := 11) hx hb hts i_Ga hown hK hP 19 ww_19 rfl 0 (by decide) (hts _ g_60) (fun _ h9 => h9) rfl d_Re_takeOwner_4 ?_
  refine va_getN (D := D9) (ci := 0) (C := R_By) (T := F_By) (N := 2) hx hb hts i_By hown hK hP 3 ww_3 rfl 1 (by decide) (hts _ g_39) (fun _ h9 => h9) rfl d_Re_takeOwner_7 ?_
  refine lv_topq (y := nI L.length) (hL3) ?_
  refine lv_istore_n (lv' := [(2, _), (0, _), (1, _)]) hx hb d_Re_takeOwner_10 rfl hl (by decide) rfl (fun ls hl => ?_)
  refine lv_aload_n hx hb d_Re_takeOwner_11 rfl (lv_at hl 1 rfl) ?_
  refine lv_iload_n hx hb d_Re_takeOwner_12 rfl (lv_at hl 2 rfl) ?_
  refine lv_aload_n hx hb d_Re_takeOwner_13 rfl (lv_at hl 1 rfl) ?_
  refine va_get (D := D9) (ci := 4) (C := R_Re) (T := F_Re) (N := 8) hx hb hts i_Re hown hK hP 17 ww_17 rfl 0 (by decide) (hts _ g_120) (fun _ h9 => h9) rfl d_Re_takeOwner_14 ?_
  refine va_getN (D := D9) (ci := 0) (C := R_By) (T := F_By) (N := 2) hx hb hts i_By hown hK hP 1 ww_1 rfl 1 (by decide) (hts _ g_39) (fun _ h9 => h9) rfl d_Re_takeOwner_17 ?_
  refine lv_topq (y := nI t.length) (hT2) ?_
  refine mw_cV (ci := 4) (k := 17) C0 (m_Re_takeName l D9 cB cI cJ cG a O _ _ t hT2 htl hT L t.length st9 fw hL3 (by omega) hBL (by omega) (by omega) hfw) g_279 g_4 g_276 g_278 gs_Re_takeName ⟨by decide +kernel, by decide +kernel, show Option.map (fun d => d.parameters.length) (parseMethodDescriptor y_Re_takeName.desc) = some 2 by decide +kernel⟩ ⟨by decide, by decide⟩ rfl rfl hP hD hS hA rfl ww_17 hl.1 (Nat.le_of_ble_eq_true rfl) rfl d_Re_takeOwner_20 ⟨by decide, by decide⟩ (fun v9 w9 H locs hq hP hD hS => ?_)
  obtain ⟨I1, F2, hw9, q3⟩ := hq
  subst hw9
  rcases q3 with ⟨nm1, e1, c_1, hr1, rfl, sn1, z31, z61, z71, sG1, wB1⟩ | ⟨hr1, rfl, sn1, z31, sG1, wB1⟩
  · have hbd1 := rn_bd hr1 (by decide)
    have hln1 : (L ++ nm1).length = L.length + nm1.length := List.length_append
    refine lv_istore_n (lv' := [(3, _), (2, _), (0, _), (1, _)]) hx hb d_Re_takeOwner_23 rfl hl (by decide) rfl (fun ls hl => ?_)
    refine lv_aload_n hx hb d_Re_takeOwner_24 rfl (lv_at hl 2 rfl) ?_
    refine lv_aload_n hx hb d_Re_takeOwner_25 rfl (lv_at hl 2 rfl) ?_
    refine va_get (D := D9) (ci := 4) (C := R_Re) (T := F_Re) (N := 8) hx hb hts i_Re hown hK hP 17 ww_17 rfl 1 (by decide) (hts _ g_121) (fun _ h9 => h9) rfl d_Re_takeOwner_26 ?_
    refine va_getN (D := D9) (ci := 2) (C := R_Ga) (T := F_Ga) (N := 11) hx hb hts i_Ga hown hK hP 19 ww_19 rfl 0 (by decide) (hts _ g_60) (fun _ h9 => h9) rfl d_Re_takeOwner_29 ?_
    refine va_getN (D := D9) (ci := 0) (C := R_By) (T := F_By) (N := 2) hx hb hts i_By hown hK hP 3 ww_3 rfl 1 (by decide) (hts _ g_39) (fun _ h9 => h9) rfl d_Re_takeOwner_32 ?_
    refine lv_topq (y := nI ((L ++ nm1).length)) (z31) ?_
    refine lv_iload_n hx hb d_Re_takeOwner_35 rfl (lv_at hl 1 rfl) ?_
    refine lv_isub hx hb d_Re_takeOwner_36 ?_
    refine lv_topq (y := nI nm1.length) ((pk_sub (by omega)).trans (congrArg nI (by omega))) ?_
    refine va_put (D := D9) (ty := .int) (ci := 4) (C := R_Re) (T := F_Re) (N := 8) hx hb hts i_Re t_Re t_Re_ok n_Re hown hK hP hD hS 17 ww_17 rfl 6 (by decide) (hts _ g_128) (fun _ h9 => h9) rfl (by decide +kernel) rfl rfl (Nat.le_of_ble_eq_true rfl) d_Re_takeOwner_37 (fun H locs hP hD hS => ?_)
    obtain ⟨I4, aI4, sI4, hP, hD⟩ := fx (P := fun z => va_P D9 cls9 (WW a cB cI cJ cG z _ O) H ∧ va_D A0 (WW a cB cI cJ cG z _ O)) ⟨wp_8 hP, wd_8 hD⟩
    refine lv_iload_n hx hb d_Re_takeOwner_40 rfl (lv_at hl 0 rfl) ?_
    exact hret _ _ _ _ _ _ _ hS hP hD d_Re_takeOwner_41 (nr_z (Or.inr rfl)) (Or.inl ⟨nm1, e1, c_1, hr1, rfl, (sm_tr (sm_mo sn1 (by decide)) (sm_mo sI4 (by decide))), ((sI4 3 (by decide)).trans z31), ((sI4 6 (by decide)).trans z61), ((sI4 7 (by decide)).trans z71), aI4, (sm_mo sG1 (by decide)), wB1⟩)
  · refine lv_istore_n (lv' := [(3, _), (2, _), (0, _), (1, _)]) hx hb d_Re_takeOwner_23 rfl hl (by decide) rfl (fun ls hl => ?_)
    refine lv_aload_n hx hb d_Re_takeOwner_24 rfl (lv_at hl 2 rfl) ?_
    refine lv_aload_n hx hb d_Re_takeOwner_25 rfl (lv_at hl 2 rfl) ?_
    refine va_get (D := D9) (ci := 4) (C := R_Re) (T := F_Re) (N := 8) hx hb hts i_Re hown hK hP 17 ww_17 rfl 1 (by decide) (hts _ g_121) (fun _ h9 => h9) rfl d_Re_takeOwner_26 ?_
    refine va_getN (D := D9) (ci := 2) (C := R_Ga) (T := F_Ga) (N := 11) hx hb hts i_Ga hown hK hP 19 ww_19 rfl 0 (by decide) (hts _ g_60) (fun _ h9 => h9) rfl d_Re_takeOwner_29 ?_
    refine va_getN (D := D9) (ci := 0) (C := R_By) (T := F_By) (N := 2) hx hb hts i_By hown hK hP 3 ww_3 rfl 1 (by decide) (hts _ g_39) (fun _ h9 => h9) rfl d_Re_takeOwner_32 ?_
    refine lv_iload_n hx hb d_Re_takeOwner_35 rfl (lv_at hl 1 rfl) ?_
    refine lv_isub hx hb d_Re_takeOwner_36 ?_
    refine va_put (D := D9) (ty := .int) (ci := 4) (C := R_Re) (T := F_Re) (N := 8) hx hb hts i_Re t_Re t_Re_ok n_Re hown hK hP hD hS 17 ww_17 rfl 6 (by decide) (hts _ g_128) (fun _ h9 => h9) rfl (by decide +kernel) rfl rfl (Nat.le_of_ble_eq_true rfl) d_Re_takeOwner_37 (fun H locs hP hD hS => ?_)
    obtain ⟨I5, aI5, sI5, hP, hD⟩ := fx (P := fun z => va_P D9 cls9 (WW a cB cI cJ cG z _ O) H ∧ va_D A0 (WW a cB cI cJ cG z _ O)) ⟨wp_8 hP, wd_8 hD⟩
    refine lv_iload_n hx hb d_Re_takeOwner_40 rfl (lv_at hl 0 rfl) ?_
    exact hret _ _ _ _ _ _ _ hS hP hD d_Re_takeOwner_41 (nr_z (Or.inl rfl)) (Or.inr ⟨hr1, rfl, (sm_tr (sm_mo sn1 (by decide)) (sm_mo sI5 (by decide))), (by rw [(sI5 4 (by decide))]; exact z31), (sm_mo sG1 (by decide)), wB1⟩)
set_option maxHeartbeats 4000000 in
set_option maxRecDepth 100000 in
/-- Reader.takeBackTo -/
theorem m_Re_takeBackTo (l : Launch) (D9 : va_G) (cB cI cJ cG : ClassId) (a : Nat → Nat) (O : Nat → Int64) (I : Nat → Int32) (F : Nat → Nat → Int32) (x : Int32) : MC l D9 cB cI cJ cG a O y_Re_takeBackTo b_Re_takeBackTo 2 (some .boolean) 0 [.ref (a 17), .int (x)] I F (fun v I' F' => v = some (.int (nI 0)) ∧ sm [3] I I' ∧ I' 3 = x ∧ F = F') := by
  refine mc_of (by decide) (Nat.le_of_ble_eq_true rfl) ?_
  intro p e s m below meth c ls A0 Q C0 hP hD hA hS hl hret
  obtain ⟨hx, hb, hml, hr, hlocks, hown, hts, hK⟩ := id C0
  have hl : lv_has ls 2 [(0, .ref (a 17)), (1, .int (x))] := hl
  refine lv_aload_n hx hb d_Re_takeBackTo_0 rfl (lv_at hl 0 rfl) ?_
  refine va_get (D := D9) (ci := 4) (C := R_Re) (T := F_Re) (N := 8) hx hb hts i_Re hown hK hP 17 ww_17 rfl 1 (by decide) (hts _ g_121) (fun _ h9 => h9) rfl d_Re_takeBackTo_1 ?_
  refine va_getN (D := D9) (ci := 2) (C := R_Ga) (T := F_Ga) (N := 11) hx hb hts i_Ga hown hK hP 19 ww_19 rfl 0 (by decide) (hts _ g_60) (fun _ h9 => h9) rfl d_Re_takeBackTo_4 ?_
  refine lv_iload_n hx hb d_Re_takeBackTo_7 rfl (lv_at hl 1 rfl) ?_
  refine va_putN (D := D9) (ty := .int) (ci := 0) (C := R_By) (T := F_By) (N := 2) hx hb hts i_By t_By t_By_ok n_By hown hK hP hD hS 3 ww_3 rfl 1 (by decide) (hts _ g_39) (fun _ h9 => h9) rfl (by decide +kernel) rfl rfl (Nat.le_of_ble_eq_true rfl) d_Re_takeBackTo_8 (fun H locs hP hD hS => ?_)
  obtain ⟨I1, aI1, sI1, hP, hD⟩ := fx (P := fun z => va_P D9 cls9 (WW a cB cI cJ cG z _ O) H ∧ va_D A0 (WW a cB cI cJ cG z _ O)) ⟨wp_3 hP, wd_3 hD⟩
  refine lv_iconst (v := 0) hx hb d_Re_takeBackTo_11 (by decide) ?_
  refine lv_topq (y := nI 0) (rfl) ?_
  exact hret _ _ _ _ _ _ _ hS hP hD d_Re_takeBackTo_12 (nr_z (Or.inl rfl)) (⟨rfl, (sm_mo sI1 (by decide)), aI1, rfl⟩)
set_option maxHeartbeats 4000000 in
set_option maxRecDepth 100000 in
/-- Reader.areStrings -/
theorem m_Re_areStrings (l : Launch) (D9 : va_G) (cB cI cJ cG : ClassId) (a : Nat → Nat) (O : Nat → Int64) (I : Nat → Int32) (F : Nat → Nat → Int32) (t : List Nat) (hT2 : I 2 = nI t.length) (htl : t.length ≤ 65536) (hT : BR 0 65536 (F 2) t) (fr to : Nat) (hfr : fr ≤ 65536) (hto : to ≤ t.length) : MC l D9 cB cI cJ cG a O y_Re_areStrings b_Re_areStrings 4 (some .boolean) 1 [.ref (a 17), .int (nI fr), .int (nI to)] I F (fun v I' F' => v = some (.int (bI (strs t fr to))) ∧ I = I' ∧ F = F') := by
  refine mc_of (by decide) (Nat.le_of_ble_eq_true rfl) ?_
  intro p e s m below meth c ls A0 Q C0 hP hD hA hS hl hret
  obtain ⟨hx, hb, hml, hr, hlocks, hown, hts, hK⟩ := id C0
  have hl : lv_has ls 4 [(0, .ref (a 17)), (1, .int (nI fr)), (2, .int (nI to))] := hl
  refine lv_iload_n hx hb d_Re_areStrings_0 rfl (lv_at hl 1 rfl) ?_
  refine lv_istore_n (lv' := [(3, _), (0, _), (1, _), (2, _)]) hx hb d_Re_areStrings_1 rfl hl (by decide) rfl (fun ls hl => ?_)
  have loop1 : ∀ (n9 : Nat) (ap : Nat) (f9 : Nat) (I9 : Nat → Int32) (F9 : Nat → Nat → Int32) (H : Heap) (locs : List Loc) (ls : Array Slot), (I = I9) → (F = F9) → (to - ap = n9) → (to - ap < f9) → (ap ≤ 70000) → (se (to - fr + 1) t fr to = se f9 t ap to) → va_P D9 cls9 (WW a cB cI cJ cG I9 F9 O) H → va_D A0 (WW a cB cI cJ cG I9 F9 O) → va_S A0 s.heap H locs → lv_has ls 4 [(0, .ref (a 17)), (1, .int (nI fr)), (2, .int (nI to)), (3, .int (nI ap))] → W p l e (rm9 1 0 0) s m ([.ref (a 17), .int (nI fr), .int (nI to)] : List Value).toArray below meth c H locs 0 0 Q (F0 m 2 ls []) := by
    intro n9
    induction n9 using Nat.strongRecOn with
    | ind n9 ih =>
      intro ap f9 I9 F9 H locs ls hsI hsF hn9 hf hap hE hP hD hS hl
      subst hsI
      subst hsF
      obtain ⟨g9, rfl⟩ : ∃ g9, f9 = g9 + 1 := ⟨f9 - 1, by omega⟩
      have hE2 : se (g9 + 1) t ap to = if ap < to then se g9 t (ap + (1 + tb t ap)) to else decide (ap = to) := rfl
      rw [hE2] at hE
      refine lv_iload_n hx hb d_Re_areStrings_2 rfl (lv_at hl 3 rfl) ?_
      refine lv_iload_n hx hb d_Re_areStrings_3 rfl (lv_at hl 2 rfl) ?_
      refine lv_icmp_ge (tgt := 23) hx hb d_Re_areStrings_4 (by decide) (fun c1 => ?_) (fun c1 => ?_)
      · have c1 : to ≤ ap := (nI_leI (a := to) (b := ap) (by omega) (by omega)).mp c1
        rw [if_neg (by omega)] at hE
        refine lv_iload_n hx hb d_Re_areStrings_23 rfl (lv_at hl 1 rfl) ?_
        refine lv_iload_n hx hb d_Re_areStrings_24 rfl (lv_at hl 2 rfl) ?_
        refine lv_icmp_ge (tgt := 37) hx hb d_Re_areStrings_25 (by decide) (fun c2 => ?_) (fun c2 => ?_)
        · have c2 : to ≤ fr := (nI_leI (a := to) (b := fr) (by omega) (by omega)).mp c2
          refine lv_iconst (v := 0) hx hb d_Re_areStrings_37 (by decide) ?_
          refine lv_topq (y := nI 0) (rfl) ?_
          exact hret _ _ _ _ _ _ _ hS hP hD d_Re_areStrings_38 (nr_z (Or.inl rfl)) (by have e9 : strs t fr to = false := (by unfold strs; rw [hE]; simp <;> omega); rw [e9]; exact ⟨rfl, rfl, rfl⟩)
        · have c2 : ¬ (to ≤ fr) := fun z9 => c2 ((nI_leI (a := to) (b := fr) (by omega) (by omega)).mpr z9)
          refine lv_iload_n hx hb d_Re_areStrings_28 rfl (lv_at hl 3 rfl) ?_
          refine lv_iload_n hx hb d_Re_areStrings_29 rfl (lv_at hl 2 rfl) ?_
          refine lv_icmp_ne (tgt := 37) hx hb d_Re_areStrings_30 (by decide) (fun c3 => ?_) (fun c3 => ?_)
          · have c3 : ¬ (ap = to) := fun z9 => c3 ((nI_eq (a := ap) (b := to) (by omega) (by omega)).mpr z9)
            refine lv_iconst (v := 0) hx hb d_Re_areStrings_37 (by decide) ?_
            refine lv_topq (y := nI 0) (rfl) ?_
            exact hret _ _ _ _ _ _ _ hS hP hD d_Re_areStrings_38 (nr_z (Or.inl rfl)) (by have e9 : strs t fr to = false := (by unfold strs; rw [hE]; simp <;> omega); rw [e9]; exact ⟨rfl, rfl, rfl⟩)
          · have c3 : ap = to := (nI_eq (a := ap) (b := to) (by omega) (by omega)).mp c3
            refine lv_iconst (v := 1) hx hb d_Re_areStrings_33 (by decide) ?_
            refine lv_topq (y := nI 1) (rfl) ?_
            refine lv_goto (tgt := 38) hx hb d_Re_areStrings_34 (by decide) ?_
            exact hret _ _ _ _ _ _ _ hS hP hD d_Re_areStrings_38 (nr_z (Or.inr rfl)) (by have e9 : strs t fr to = true := (by unfold strs; rw [hE]; simp <;> omega); rw [e9]; exact ⟨rfl, rfl, rfl⟩)
      · have c1 : ¬ (to ≤ ap) := fun z9 => c1 ((nI_leI (a := to) (b := ap) (by omega) (by omega)).mpr z9)
        rw [if_pos (by omega)] at hE
        have hby : tb t ap < 256 := BR_lt hT (by omega) (by omega) (by omega)
        refine lv_iload_n hx hb d_Re_areStrings_7 rfl (lv_at hl 3 rfl) ?_
        refine lv_iconst (v := 1) hx hb d_Re_areStrings_8 (by decide) ?_
        refine lv_topq (y := nI 1) (rfl) ?_
        refine lv_aload_n hx hb d_Re_areStrings_9 rfl (lv_at hl 0 rfl) ?_
        refine va_get (D := D9) (ci := 4) (C := R_Re) (T := F_Re) (N := 8) hx hb hts i_Re hown hK hP 17 ww_17 rfl 0 (by decide) (hts _ g_120) (fun _ h9 => h9) rfl d_Re_areStrings_10 ?_
        refine lv_iload_n hx hb d_Re_areStrings_13 rfl (lv_at hl 3 rfl) ?_
        refine mw_cVN (ci := 0) (k := 1) C0 (m_By_atL_tp l D9 cB cI cJ cG a O _ _ t ap hT htl (by omega)) g_259 g_2 g_280 g_258 gs_By_at ⟨by decide +kernel, by decide +kernel, show Option.map (fun d => d.parameters.length) (parseMethodDescriptor y_By_at.desc) = some 1 by decide +kernel⟩ ⟨by decide, by decide⟩ rfl rfl hP hD hS hA rfl ww_1 hl.1 (Nat.le_of_ble_eq_true rfl) rfl d_Re_areStrings_14 ⟨by decide, by decide⟩ (fun v9 w9 H locs hq hP hD hS => ?_)
        obtain ⟨I4, F5, hw9, q6⟩ := hq
        subst hw9
        obtain ⟨rfl, rfl, rfl⟩ := q6
        refine lv_iadd hx hb d_Re_areStrings_17 ?_
        refine lv_topq (y := nI (1 + (tb t ap))) (nI_add _ _) ?_
        refine lv_iadd hx hb d_Re_areStrings_18 ?_
        refine lv_topq (y := nI (ap + (1 + (tb t ap)))) (nI_add _ _) ?_
        refine lv_istore_n (lv' := [(3, _), (0, _), (1, _), (2, _)]) hx hb d_Re_areStrings_19 rfl hl (by decide) rfl (fun ls hl => ?_)
        refine lv_goto (tgt := 2) hx hb d_Re_areStrings_20 (by decide) ?_
        exact ih _ (by omega) (ap + (1 + tb t ap)) g9 _ _ _ _ _ rfl rfl rfl (by omega) (by omega) hE hP hD hS (lv_pk hl [1, 2, 3, 0] rfl)
  exact loop1 _ fr (to - fr + 1) _ _ _ _ _ rfl rfl rfl (by omega) (by omega) rfl hP hD hS (lv_pk hl [1, 2, 3, 0] rfl)
set_option maxHeartbeats 4000000 in
set_option maxRecDepth 100000 in
/-- Reader.isAsItsType -/
theorem m_Re_isAsItsType (l : Launch) (D9 : va_G) (cB cI cJ cG : ClassId) (a : Nat → Nat) (O : Nat → Int64) (I : Nat → Int32) (F : Nat → Nat → Int32) (t : List Nat) (hT2 : I 2 = nI t.length) (htl : t.length ≤ 65536) (hT : BR 0 65536 (F 2) t) (ty fr to ol : Nat) (hty : ty < 65536) (hfr : fr ≤ to) (hto : to ≤ t.length) (hol : I 8 = nI ol) (hob : ol < 1000000) : MC l D9 cB cI cJ cG a O y_Re_isAsItsType b_Re_isAsItsType 5 (some .boolean) 2 [.ref (a 17), .int (nI ty), .int (nI fr), .int (nI to)] I F (fun v I' F' => v = some (.int (bI (asT t ty fr to ol))) ∧ I = I' ∧ F = F') := by
  refine mc_of (by decide) (Nat.le_of_ble_eq_true rfl) ?_
  intro p e s m below meth c ls A0 Q C0 hP hD hA hS hl hret
  obtain ⟨hx, hb, hml, hr, hlocks, hown, hts, hK⟩ := id C0
  have hl : lv_has ls 5 [(0, .ref (a 17)), (1, .int (nI ty)), (2, .int (nI fr)), (3, .int (nI to))] := hl
  refine lv_iload_n hx hb d_Re_isAsItsType_0 rfl (lv_at hl 1 rfl) ?_
  refine lv_bipush (v := 16) hx hb d_Re_isAsItsType_1 (by decide) ?_
  refine lv_topq (y := nI 16) (rfl) ?_
  refine lv_icmp_ne (tgt := 13) hx hb d_Re_isAsItsType_3 (by decide) (fun c1 => ?_) (fun c1 => ?_)
  · have c1 : ¬ (ty = 16) := fun z9 => c1 ((nI_eq (a := ty) (b := 16) (by omega) (by omega)).mpr z9)
    refine lv_iload_n hx hb d_Re_isAsItsType_13 rfl (lv_at hl 1 rfl) ?_
    refine lv_bipush (v := 41) hx hb d_Re_isAsItsType_14 (by decide) ?_
    refine lv_topq (y := nI 41) (rfl) ?_
    refine lv_icmp_ne (tgt := 33) hx hb d_Re_isAsItsType_16 (by decide) (fun c2 => ?_) (fun c2 => ?_)
    · have c2 : ¬ (ty = 41) := fun z9 => c2 ((nI_eq (a := ty) (b := 41) (by omega) (by omega)).mpr z9)
      refine lv_iload_n hx hb d_Re_isAsItsType_33 rfl (lv_at hl 1 rfl) ?_
      refine mw_cSN C0 (m_Ki_fixedSize l D9 cB cI cJ cG a O _ _ ty hty) g_355 g_16 g_353 g_354 ⟨by decide +kernel, by decide +kernel, show Option.map (fun d => d.parameters.length) (parseMethodDescriptor y_Ki_fixedSize.desc) = some 1 by decide +kernel⟩ ⟨by decide, by decide⟩ rfl rfl hP hD hS hA hl.1 (Nat.le_of_ble_eq_true rfl) rfl d_Re_isAsItsType_34 ⟨by decide, by decide⟩ (fun v9 w9 H locs hq hP hD hS => ?_)
      obtain ⟨I3, F4, hw9, q5⟩ := hq
      subst hw9
      obtain ⟨rfl, rfl, rfl⟩ := q5
      by_cases ty1 : ty = 1
      · refine lv_topq (y := nI 4) (by unfold k_fx; rw [if_pos ty1]; rfl) ?_
        refine lv_istore (lv' := [(4, _), (0, _), (1, _), (2, _), (3, _)]) hx hb d_Re_isAsItsType_37 hl (by decide) rfl (fun ls hl => ?_)
        refine lv_iload hx hb d_Re_isAsItsType_39 (lv_at hl 0 rfl) ?_
        refine lv_if_lt (tgt := 52) hx hb d_Re_isAsItsType_41 (by decide) (fun c6 => ?_) (fun c6 => ?_)
        · exact absurd c6 (by decide)
        · refine lv_iload hx hb d_Re_isAsItsType_44 (lv_at hl 0 rfl) ?_
          refine lv_iload_n hx hb d_Re_isAsItsType_46 rfl (lv_at hl 4 rfl) ?_
          refine lv_iload_n hx hb d_Re_isAsItsType_47 rfl (lv_at hl 3 rfl) ?_
          refine lv_isub hx hb d_Re_isAsItsType_48 ?_
          refine lv_topq (y := nI (to - fr)) (pk_sub (by omega)) ?_
          refine lv_icmp_ne (tgt := 56) hx hb d_Re_isAsItsType_49 (by decide) (fun c7 => ?_) (fun c7 => ?_)
          · have c7 : ¬ (4 = to - fr) := fun z9 => c7 ((nI_eq (a := 4) (b := to - fr) (by omega) (by omega)).mpr z9)
            refine lv_iconst (v := 0) hx hb d_Re_isAsItsType_56 (by decide) ?_
            refine lv_topq (y := nI 0) (rfl) ?_
            exact hret _ _ _ _ _ _ _ hS hP hD d_Re_isAsItsType_57 (nr_z (Or.inl rfl)) (by have e9 : asT t ty fr to ol = false := (by unfold asT fxo; repeat (first | rw [if_pos (by omega)] | rw [if_neg (by omega)] | (simp; omega) | simp)); rw [e9]; exact ⟨rfl, rfl, rfl⟩)
          · have c7 : 4 = to - fr := (nI_eq (a := 4) (b := to - fr) (by omega) (by omega)).mp c7
            refine lv_iconst (v := 1) hx hb d_Re_isAsItsType_52 (by decide) ?_
            refine lv_topq (y := nI 1) (rfl) ?_
            refine lv_goto (tgt := 57) hx hb d_Re_isAsItsType_53 (by decide) ?_
            exact hret _ _ _ _ _ _ _ hS hP hD d_Re_isAsItsType_57 (nr_z (Or.inr rfl)) (by have e9 : asT t ty fr to ol = true := (by unfold asT fxo; repeat (first | rw [if_pos (by omega)] | rw [if_neg (by omega)] | (simp; omega) | simp)); rw [e9]; exact ⟨rfl, rfl, rfl⟩)
      · by_cases ty28 : ty = 28
        · refine lv_topq (y := nI 16) (by unfold k_fx; rw [if_neg ty1, if_pos ty28]; rfl) ?_
          refine lv_istore (lv' := [(4, _), (0, _), (1, _), (2, _), (3, _)]) hx hb d_Re_isAsItsType_37 hl (by decide) rfl (fun ls hl => ?_)
          refine lv_iload hx hb d_Re_isAsItsType_39 (lv_at hl 0 rfl) ?_
          refine lv_if_lt (tgt := 52) hx hb d_Re_isAsItsType_41 (by decide) (fun c8 => ?_) (fun c8 => ?_)
          · exact absurd c8 (by decide)
          · refine lv_iload hx hb d_Re_isAsItsType_44 (lv_at hl 0 rfl) ?_
            refine lv_iload_n hx hb d_Re_isAsItsType_46 rfl (lv_at hl 4 rfl) ?_
            refine lv_iload_n hx hb d_Re_isAsItsType_47 rfl (lv_at hl 3 rfl) ?_
            refine lv_isub hx hb d_Re_isAsItsType_48 ?_
            refine lv_topq (y := nI (to - fr)) (pk_sub (by omega)) ?_
            refine lv_icmp_ne (tgt := 56) hx hb d_Re_isAsItsType_49 (by decide) (fun c9 => ?_) (fun c9 => ?_)
            · have c9 : ¬ (16 = to - fr) := fun z9 => c9 ((nI_eq (a := 16) (b := to - fr) (by omega) (by omega)).mpr z9)
              refine lv_iconst (v := 0) hx hb d_Re_isAsItsType_56 (by decide) ?_
              refine lv_topq (y := nI 0) (rfl) ?_
              exact hret _ _ _ _ _ _ _ hS hP hD d_Re_isAsItsType_57 (nr_z (Or.inl rfl)) (by have e9 : asT t ty fr to ol = false := (by unfold asT fxo; repeat (first | rw [if_pos (by omega)] | rw [if_neg (by omega)] | (simp; omega) | simp)); rw [e9]; exact ⟨rfl, rfl, rfl⟩)
            · have c9 : 16 = to - fr := (nI_eq (a := 16) (b := to - fr) (by omega) (by omega)).mp c9
              refine lv_iconst (v := 1) hx hb d_Re_isAsItsType_52 (by decide) ?_
              refine lv_topq (y := nI 1) (rfl) ?_
              refine lv_goto (tgt := 57) hx hb d_Re_isAsItsType_53 (by decide) ?_
              exact hret _ _ _ _ _ _ _ hS hP hD d_Re_isAsItsType_57 (nr_z (Or.inr rfl)) (by have e9 : asT t ty fr to ol = true := (by unfold asT fxo; repeat (first | rw [if_pos (by omega)] | rw [if_neg (by omega)] | (simp; omega) | simp)); rw [e9]; exact ⟨rfl, rfl, rfl⟩)
        · refine lv_topq (y := (-1 : Int32)) (by unfold k_fx; rw [if_neg ty1, if_neg ty28]) ?_
          refine lv_istore (lv' := [(4, _), (0, _), (1, _), (2, _), (3, _)]) hx hb d_Re_isAsItsType_37 hl (by decide) rfl (fun ls hl => ?_)
          refine lv_iload hx hb d_Re_isAsItsType_39 (lv_at hl 0 rfl) ?_
          refine lv_if_lt (tgt := 52) hx hb d_Re_isAsItsType_41 (by decide) (fun c10 => ?_) (fun c10 => ?_)
          · refine lv_iconst (v := 1) hx hb d_Re_isAsItsType_52 (by decide) ?_
            refine lv_topq (y := nI 1) (rfl) ?_
            refine lv_goto (tgt := 57) hx hb d_Re_isAsItsType_53 (by decide) ?_
            exact hret _ _ _ _ _ _ _ hS hP hD d_Re_isAsItsType_57 (nr_z (Or.inr rfl)) (by have e9 : asT t ty fr to ol = true := (by unfold asT fxo; repeat (first | rw [if_pos (by omega)] | rw [if_neg (by omega)] | (simp; omega) | simp)); rw [e9]; exact ⟨rfl, rfl, rfl⟩)
          · exact absurd c10 (by decide)
    · have c2 : ty = 41 := (nI_eq (a := ty) (b := 41) (by omega) (by omega)).mp c2
      refine lv_aload_n hx hb d_Re_isAsItsType_19 rfl (lv_at hl 0 rfl) ?_
      refine va_get (D := D9) (ci := 4) (C := R_Re) (T := F_Re) (N := 8) hx hb hts i_Re hown hK hP 17 ww_17 rfl 6 (by decide) (hts _ g_128) (fun _ h9 => h9) rfl d_Re_isAsItsType_20 ?_
      refine lv_topq (y := nI ol) (hol) ?_
      refine lv_iconst (v := 1) hx hb d_Re_isAsItsType_23 (by decide) ?_
      refine lv_topq (y := nI 1) (rfl) ?_
      refine lv_icmp_ne (tgt := 31) hx hb d_Re_isAsItsType_24 (by decide) (fun c11 => ?_) (fun c11 => ?_)
      · have c11 : ¬ (ol = 1) := fun z9 => c11 ((nI_eq (a := ol) (b := 1) (by omega) (by omega)).mpr z9)
        refine lv_iconst (v := 0) hx hb d_Re_isAsItsType_31 (by decide) ?_
        refine lv_topq (y := nI 0) (rfl) ?_
        exact hret _ _ _ _ _ _ _ hS hP hD d_Re_isAsItsType_32 (nr_z (Or.inl rfl)) (by have e9 : asT t ty fr to ol = false := (by unfold asT fxo; repeat (first | rw [if_pos (by omega)] | rw [if_neg (by omega)] | (simp; omega) | simp)); rw [e9]; exact ⟨rfl, rfl, rfl⟩)
      · have c11 : ol = 1 := (nI_eq (a := ol) (b := 1) (by omega) (by omega)).mp c11
        refine lv_iconst (v := 1) hx hb d_Re_isAsItsType_27 (by decide) ?_
        refine lv_topq (y := nI 1) (rfl) ?_
        refine lv_goto (tgt := 32) hx hb d_Re_isAsItsType_28 (by decide) ?_
        exact hret _ _ _ _ _ _ _ hS hP hD d_Re_isAsItsType_32 (nr_z (Or.inr rfl)) (by have e9 : asT t ty fr to ol = true := (by unfold asT fxo; repeat (first | rw [if_pos (by omega)] | rw [if_neg (by omega)] | (simp; omega) | simp)); rw [e9]; exact ⟨rfl, rfl, rfl⟩)
  · have c1 : ty = 16 := (nI_eq (a := ty) (b := 16) (by omega) (by omega)).mp c1
    refine lv_aload_n hx hb d_Re_isAsItsType_6 rfl (lv_at hl 0 rfl) ?_
    refine lv_iload_n hx hb d_Re_isAsItsType_7 rfl (lv_at hl 2 rfl) ?_
    refine lv_iload_n hx hb d_Re_isAsItsType_8 rfl (lv_at hl 3 rfl) ?_
    refine mw_cV (ci := 4) (k := 17) C0 (m_Re_areStrings l D9 cB cI cJ cG a O _ _ t hT2 htl hT fr to (by omega) hto) g_352 g_4 g_349 g_351 gs_Re_areStrings ⟨by decide +kernel, by decide +kernel, show Option.map (fun d => d.parameters.length) (parseMethodDescriptor y_Re_areStrings.desc) = some 2 by decide +kernel⟩ ⟨by decide, by decide⟩ rfl rfl hP hD hS hA rfl ww_17 hl.1 (Nat.le_of_ble_eq_true rfl) rfl d_Re_isAsItsType_9 ⟨by decide, by decide⟩ (fun v9 w9 H locs hq hP hD hS => ?_)
    obtain ⟨I12, F13, hw9, q14⟩ := hq
    subst hw9
    obtain ⟨rfl, rfl, rfl⟩ := q14
    exact hret _ _ _ _ _ _ _ hS hP hD d_Re_isAsItsType_12 (nr_z (bI_01 _)) (by have e9 : asT t ty fr to ol = strs t fr to := (by unfold asT; rw [if_pos (by omega)]); rw [e9]; exact ⟨rfl, rfl, rfl⟩)
set_option maxHeartbeats 4000000 in
set_option maxRecDepth 100000 in
/-- Reader.takeDataWithNames -/
theorem m_Re_takeDataWithNames (l : Launch) (D9 : va_G) (cB cI cJ cG : ClassId) (a : Nat → Nat) (O : Nat → Int64) (I : Nat → Int32) (F : Nat → Nat → Int32) (t : List Nat) (hT2 : I 2 = nI t.length) (htl : t.length ≤ 65536) (hT : BR 0 65536 (F 2) t) (L : List Nat) (ty fr to fw : Nat) (hL3 : I 3 = nI L.length) (hLb : L.length < 300000) (hBL : BR 0 65536 (F 4) L) (hty : ty < 65536) (hfr : fr ≤ to) (hto : to ≤ t.length) (hfw : I 7 = nI fw) (hfb : fw < 100000000) (hnm : 0 < k_nm ty) : MC l D9 cB cI cJ cG a O y_Re_takeDataWithNames b_Re_takeDataWithNames 9 (some .boolean) 4 [.ref (a 17), .int (nI ty), .int (nI fr), .int (nI to)] I F (fun v I' F' => (∃ d c, rdN t ty fr to = some (d, c) ∧ v = some (.int (nI 1)) ∧ sm [3, 6, 7, 9] I I' ∧ I' 3 = nI (L ++ d).length ∧ I' 7 = nI (fw + c) ∧ sm [4] F F' ∧ BR 0 65536 (F' 4) (L ++ d)) ∨ (rdN t ty fr to = none ∧ v = some (.int (nI 0)) ∧ sm [3, 4, 5, 6, 7, 9] I I' ∧ ¬ I' 4 = 0 ∧ sm [4] F F' ∧ BR 0 65536 (F' 4) L)) := by
  refine mc_of (by decide) (Nat.le_of_ble_eq_true rfl) ?_
  intro p e s m below meth c ls A0 Q C0 hP hD hA hS hl hret
  obtain ⟨hx, hb, hml, hr, hlocks, hown, hts, hK⟩ := id C0
  have hl : lv_has ls 9 [(0, .ref (a 17)), (1, .int (nI ty)), (2, .int (nI fr)), (3, .int (nI to))] := hl
  have kbf := k_bf_le ty
  have kbh := k_bh_le ty
  refine lv_iload_n hx hb d_Re_takeDataWithNames_0 rfl (lv_at hl 1 rfl) ?_
  refine mw_cSN C0 (m_Ki_bytesBeforeNames l D9 cB cI cJ cG a O _ _ ty hty) g_337 g_16 g_335 g_336 ⟨by decide +kernel, by decide +kernel, show Option.map (fun d => d.parameters.length) (parseMethodDescriptor y_Ki_bytesBeforeNames.desc) = some 1 by decide +kernel⟩ ⟨by decide, by decide⟩ rfl rfl hP hD hS hA hl.1 (Nat.le_of_ble_eq_true rfl) rfl d_Re_takeDataWithNames_1 ⟨by decide, by decide⟩ (fun v9 w9 H locs hq hP hD hS => ?_)
  obtain ⟨I1, F2, hw9, q3⟩ := hq
  subst hw9
  obtain ⟨rfl, rfl, rfl⟩ := q3
  refine lv_istore (lv' := [(4, _), (0, _), (1, _), (2, _), (3, _)]) hx hb d_Re_takeDataWithNames_4 hl (by decide) rfl (fun ls hl => ?_)
  refine lv_iload_n hx hb d_Re_takeDataWithNames_6 rfl (lv_at hl 2 rfl) ?_
  refine mw_cSN C0 (m_Ki_bytesBehindNames l D9 cB cI cJ cG a O _ _ ty hty) g_340 g_16 g_338 g_339 ⟨by decide +kernel, by decide +kernel, show Option.map (fun d => d.parameters.length) (parseMethodDescriptor y_Ki_bytesBehindNames.desc) = some 1 by decide +kernel⟩ ⟨by decide, by decide⟩ rfl rfl hP hD hS hA hl.1 (Nat.le_of_ble_eq_true rfl) rfl d_Re_takeDataWithNames_7 ⟨by decide, by decide⟩ (fun v9 w9 H locs hq hP hD hS => ?_)
  obtain ⟨I4, F5, hw9, q6⟩ := hq
  subst hw9
  obtain ⟨rfl, rfl, rfl⟩ := q6
  refine lv_istore (lv' := [(5, _), (4, _), (0, _), (1, _), (2, _), (3, _)]) hx hb d_Re_takeDataWithNames_10 hl (by decide) rfl (fun ls hl => ?_)
  refine lv_iload_n hx hb d_Re_takeDataWithNames_12 rfl (lv_at hl 3 rfl) ?_
  refine mw_cSN C0 (m_Ki_namesIn l D9 cB cI cJ cG a O _ _ ty hty) g_330 g_16 g_328 g_329 ⟨by decide +kernel, by decide +kernel, show Option.map (fun d => d.parameters.length) (parseMethodDescriptor y_Ki_namesIn.desc) = some 1 by decide +kernel⟩ ⟨by decide, by decide⟩ rfl rfl hP hD hS hA hl.1 (Nat.le_of_ble_eq_true rfl) rfl d_Re_takeDataWithNames_13 ⟨by decide, by decide⟩ (fun v9 w9 H locs hq hP hD hS => ?_)
  obtain ⟨I7, F8, hw9, q9⟩ := hq
  subst hw9
  obtain ⟨rfl, rfl, rfl⟩ := q9
  rcases k_nm_12 hnm with hk | hk
  · refine lv_topq (y := nI 1) (congrArg nI hk) ?_
    refine lv_istore (lv' := [(6, _), (5, _), (4, _), (0, _), (1, _), (2, _), (3, _)]) hx hb d_Re_takeDataWithNames_16 hl (by decide) rfl (fun ls hl => ?_)
    refine lv_aload_n hx hb d_Re_takeDataWithNames_18 rfl (lv_at hl 3 rfl) ?_
    refine va_get (D := D9) (ci := 4) (C := R_Re) (T := F_Re) (N := 8) hx hb hts i_Re hown hK hP 17 ww_17 rfl 5 (by decide) (hts _ g_126) (fun _ h9 => h9) rfl d_Re_takeDataWithNames_19 ?_
    refine lv_topq (y := nI fw) (hfw) ?_
    refine lv_istore (lv' := [(7, _), (6, _), (5, _), (4, _), (0, _), (1, _), (2, _), (3, _)]) hx hb d_Re_takeDataWithNames_22 hl (by decide) rfl (fun ls hl => ?_)
    refine lv_iload_n hx hb d_Re_takeDataWithNames_24 rfl (lv_at hl 6 rfl) ?_
    refine lv_iload hx hb d_Re_takeDataWithNames_25 (lv_at hl 3 rfl) ?_
    refine lv_iadd hx hb d_Re_takeDataWithNames_27 ?_
    refine lv_topq (y := nI (fr + (k_bf ty))) (nI_add _ _) ?_
    refine lv_iload_n hx hb d_Re_takeDataWithNames_28 rfl (lv_at hl 7 rfl) ?_
    refine lv_icmp_le (tgt := 39) hx hb d_Re_takeDataWithNames_29 (by decide) (fun c10 => ?_) (fun c10 => ?_)
    · have c10 : fr + (k_bf ty) ≤ to := (nI_leI (a := fr + (k_bf ty)) (b := to) (by omega) (by omega)).mp c10
      have hsh : ¬ to < fr + k_bf ty := by omega
      refine lv_aload_n hx hb d_Re_takeDataWithNames_39 rfl (lv_at hl 4 rfl) ?_
      refine va_get (D := D9) (ci := 4) (C := R_Re) (T := F_Re) (N := 8) hx hb hts i_Re hown hK hP 17 ww_17 rfl 1 (by decide) (hts _ g_121) (fun _ h9 => h9) rfl d_Re_takeDataWithNames_40 ?_
      refine va_getN (D := D9) (ci := 2) (C := R_Ga) (T := F_Ga) (N := 11) hx hb hts i_Ga hown hK hP 19 ww_19 rfl 0 (by decide) (hts _ g_60) (fun _ h9 => h9) rfl d_Re_takeDataWithNames_43 ?_
      refine lv_aload_n hx hb d_Re_takeDataWithNames_46 rfl (lv_at hl 4 rfl) ?_
      refine va_get (D := D9) (ci := 4) (C := R_Re) (T := F_Re) (N := 8) hx hb hts i_Re hown hK hP 17 ww_17 rfl 0 (by decide) (hts _ g_120) (fun _ h9 => h9) rfl d_Re_takeDataWithNames_47 ?_
      refine lv_iload_n hx hb d_Re_takeDataWithNames_50 rfl (lv_at hl 6 rfl) ?_
      refine lv_iload hx hb d_Re_takeDataWithNames_51 (lv_at hl 3 rfl) ?_
      refine mw_cVN (ci := 0) (k := 3) C0 (m_By_putFrom_gb_tp l D9 cB cI cJ cG a O _ _ L t 0 fr (k_bf ty) hBL hT hL3 htl (by omega) (by omega)) g_300 g_2 g_297 g_299 gs_By_putFrom ⟨by decide +kernel, by decide +kernel, show Option.map (fun d => d.parameters.length) (parseMethodDescriptor y_By_putFrom.desc) = some 3 by decide +kernel⟩ ⟨by decide, by decide⟩ rfl rfl hP hD hS hA rfl ww_3 hl.1 (Nat.le_of_ble_eq_true rfl) rfl d_Re_takeDataWithNames_53 ⟨by decide, by decide⟩ (fun v9 w9 H locs hq hP hD hS => ?_)
      obtain ⟨I11, F12, hw9, q13⟩ := hq
      subst hw9
      obtain ⟨rfl, sfa, y3a, tFa, vBa⟩ := q13
      have hlma : (L ++ sl9 t fr (k_bf ty)).length = L.length + (k_bf ty) := by rw [List.length_append, sl9_len (by omega)]
      rw [← hlma] at y3a
      refine lv_aload_n hx hb d_Re_takeDataWithNames_56 rfl (lv_at hl 4 rfl) ?_
      refine lv_iload_n hx hb d_Re_takeDataWithNames_57 rfl (lv_at hl 6 rfl) ?_
      refine lv_iload hx hb d_Re_takeDataWithNames_58 (lv_at hl 3 rfl) ?_
      refine lv_iadd hx hb d_Re_takeDataWithNames_60 ?_
      refine lv_topq (y := nI (fr + (k_bf ty))) (nI_add _ _) ?_
      refine va_put (D := D9) (ty := .int) (ci := 4) (C := R_Re) (T := F_Re) (N := 8) hx hb hts i_Re t_Re t_Re_ok n_Re hown hK hP hD hS 17 ww_17 rfl 4 (by decide) (hts _ g_125) (fun _ h9 => h9) rfl (by decide +kernel) rfl rfl (Nat.le_of_ble_eq_true rfl) d_Re_takeDataWithNames_61 (fun H locs hP hD hS => ?_)
      obtain ⟨I14, aI14, sI14, hP, hD⟩ := fx (P := fun z => va_P D9 cls9 (WW a cB cI cJ cG z _ O) H ∧ va_D A0 (WW a cB cI cJ cG z _ O)) ⟨wp_6 hP, wd_6 hD⟩
      refine lv_iconst (v := 0) hx hb d_Re_takeDataWithNames_64 (by decide) ?_
      refine lv_topq (y := nI 0) (rfl) ?_
      refine lv_istore (lv' := [(8, _), (7, _), (6, _), (5, _), (4, _), (0, _), (1, _), (2, _), (3, _)]) hx hb d_Re_takeDataWithNames_65 hl (by decide) rfl (fun ls hl => ?_)
      refine lv_iload hx hb d_Re_takeDataWithNames_67 (lv_at hl 0 rfl) ?_
      refine lv_iload hx hb d_Re_takeDataWithNames_69 (lv_at hl 2 rfl) ?_
      refine lv_icmp_ge (tgt := 94) hx hb d_Re_takeDataWithNames_71 (by decide) (fun c15 => ?_) (fun c15 => ?_)
      · exact absurd c15 (by decide)
      · refine lv_aload_n hx hb d_Re_takeDataWithNames_74 rfl (lv_at hl 5 rfl) ?_
        refine lv_aload_n hx hb d_Re_takeDataWithNames_75 rfl (lv_at hl 5 rfl) ?_
        refine va_get (D := D9) (ci := 4) (C := R_Re) (T := F_Re) (N := 8) hx hb hts i_Re hown hK hP 17 ww_17 rfl 4 (by decide) (hts _ g_125) (fun _ h9 => h9) rfl d_Re_takeDataWithNames_76 ?_
        refine lv_topq (y := nI (fr + (k_bf ty))) (aI14) ?_
        refine lv_iload_n hx hb d_Re_takeDataWithNames_79 rfl (lv_at hl 8 rfl) ?_
        refine mw_cV (ci := 4) (k := 17) C0 (m_Re_takeName l D9 cB cI cJ cG a O _ _ t (((sI14 2 (by decide)).trans (sfa 2 (by decide))).trans hT2) htl (BR_eq hT (tFa 2 (by decide))) (L ++ sl9 t fr (k_bf ty)) to (fr + (k_bf ty)) fw ((sI14 3 (by decide)).trans y3a) (by omega) vBa (by omega) (by omega) ((sI14 7 (by decide)).trans ((sfa 7 (by decide)).trans hfw))) g_279 g_4 g_276 g_278 gs_Re_takeName ⟨by decide +kernel, by decide +kernel, show Option.map (fun d => d.parameters.length) (parseMethodDescriptor y_Re_takeName.desc) = some 2 by decide +kernel⟩ ⟨by decide, by decide⟩ rfl rfl hP hD hS hA rfl ww_17 hl.1 (Nat.le_of_ble_eq_true rfl) rfl d_Re_takeDataWithNames_80 ⟨by decide, by decide⟩ (fun v9 w9 H locs hq hP hD hS => ?_)
        obtain ⟨I16, F17, hw9, q18⟩ := hq
        subst hw9
        rcases q18 with ⟨nm1, e1, c_1, hr1, rfl, sn1, z31, z61, z71, sG1, wB1⟩ | ⟨hr1, rfl, sn1, z31, sG1, wB1⟩
        · have hbd1 := rn_bd hr1 (by decide)
          have hln1 : (L ++ sl9 t fr (k_bf ty) ++ nm1).length = (L ++ sl9 t fr (k_bf ty)).length + nm1.length := List.length_append
          refine lv_if_ne (tgt := 88) hx hb d_Re_takeDataWithNames_83 (by decide) (fun c19 => ?_) (fun c19 => ?_)
          · refine lv_iinc (lv' := [(8, .int (nI 1)), (7, _), (6, _), (5, _), (4, _), (0, _), (1, _), (2, _), (3, _)]) hx hb d_Re_takeDataWithNames_88 hl (k := 0) rfl rfl (by decide) rfl (fun ls hl => ?_)
            refine lv_goto (tgt := 67) hx hb d_Re_takeDataWithNames_91 (by decide) ?_
            refine lv_iload hx hb d_Re_takeDataWithNames_67 (lv_at hl 0 rfl) ?_
            refine lv_iload hx hb d_Re_takeDataWithNames_69 (lv_at hl 2 rfl) ?_
            refine lv_icmp_ge (tgt := 94) hx hb d_Re_takeDataWithNames_71 (by decide) (fun c20 => ?_) (fun c20 => ?_)
            · refine lv_aload_n hx hb d_Re_takeDataWithNames_94 rfl (lv_at hl 5 rfl) ?_
              refine va_get (D := D9) (ci := 4) (C := R_Re) (T := F_Re) (N := 8) hx hb hts i_Re hown hK hP 17 ww_17 rfl 5 (by decide) (hts _ g_126) (fun _ h9 => h9) rfl d_Re_takeDataWithNames_95 ?_
              refine lv_topq (y := nI (fw + c_1)) (z71) ?_
              refine lv_iload hx hb d_Re_takeDataWithNames_98 (lv_at hl 1 rfl) ?_
              refine lv_icmp_le (tgt := 114) hx hb d_Re_takeDataWithNames_100 (by decide) (fun c21 => ?_) (fun c21 => ?_)
              · have c21 : fw + c_1 ≤ fw := (nI_leI (a := fw + c_1) (b := fw) (by omega) (by omega)).mp c21
                refine lv_iconst (v := 0) hx hb d_Re_takeDataWithNames_114 (by decide) ?_
                refine lv_topq (y := nI 0) (rfl) ?_
                refine lv_istore (lv' := [(8, _), (7, _), (6, _), (5, _), (4, _), (0, _), (1, _), (2, _), (3, _)]) hx hb d_Re_takeDataWithNames_115 hl (by decide) rfl (fun ls hl => ?_)
                refine lv_iload hx hb d_Re_takeDataWithNames_117 (lv_at hl 0 rfl) ?_
                refine lv_if_ne (tgt := 133) hx hb d_Re_takeDataWithNames_119 (by decide) (fun c22 => ?_) (fun c22 => ?_)
                · exact absurd c22 (by decide)
                · refine lv_aload_n hx hb d_Re_takeDataWithNames_122 rfl (lv_at hl 5 rfl) ?_
                  refine va_get (D := D9) (ci := 4) (C := R_Re) (T := F_Re) (N := 8) hx hb hts i_Re hown hK hP 17 ww_17 rfl 4 (by decide) (hts _ g_125) (fun _ h9 => h9) rfl d_Re_takeDataWithNames_123 ?_
                  refine lv_topq (y := nI e1) (z61) ?_
                  refine lv_iload hx hb d_Re_takeDataWithNames_126 (lv_at hl 3 rfl) ?_
                  refine lv_iadd hx hb d_Re_takeDataWithNames_128 ?_
                  refine lv_topq (y := nI (e1 + (k_bh ty))) (nI_add _ _) ?_
                  refine lv_iload_n hx hb d_Re_takeDataWithNames_129 rfl (lv_at hl 8 rfl) ?_
                  refine lv_icmp_eq (tgt := 140) hx hb d_Re_takeDataWithNames_130 (by decide) (fun c23 => ?_) (fun c23 => ?_)
                  · have c23 : e1 + (k_bh ty) = to := (nI_eq (a := e1 + (k_bh ty)) (b := to) (by omega) (by omega)).mp c23
                    refine lv_aload_n hx hb d_Re_takeDataWithNames_140 rfl (lv_at hl 5 rfl) ?_
                    refine va_get (D := D9) (ci := 4) (C := R_Re) (T := F_Re) (N := 8) hx hb hts i_Re hown hK hP 17 ww_17 rfl 1 (by decide) (hts _ g_121) (fun _ h9 => h9) rfl d_Re_takeDataWithNames_141 ?_
                    refine va_getN (D := D9) (ci := 2) (C := R_Ga) (T := F_Ga) (N := 11) hx hb hts i_Ga hown hK hP 19 ww_19 rfl 0 (by decide) (hts _ g_60) (fun _ h9 => h9) rfl d_Re_takeDataWithNames_144 ?_
                    refine lv_aload_n hx hb d_Re_takeDataWithNames_147 rfl (lv_at hl 5 rfl) ?_
                    refine va_get (D := D9) (ci := 4) (C := R_Re) (T := F_Re) (N := 8) hx hb hts i_Re hown hK hP 17 ww_17 rfl 0 (by decide) (hts _ g_120) (fun _ h9 => h9) rfl d_Re_takeDataWithNames_148 ?_
                    refine lv_aload_n hx hb d_Re_takeDataWithNames_151 rfl (lv_at hl 5 rfl) ?_
                    refine va_get (D := D9) (ci := 4) (C := R_Re) (T := F_Re) (N := 8) hx hb hts i_Re hown hK hP 17 ww_17 rfl 4 (by decide) (hts _ g_125) (fun _ h9 => h9) rfl d_Re_takeDataWithNames_152 ?_
                    refine lv_topq (y := nI e1) (z61) ?_
                    refine lv_iload hx hb d_Re_takeDataWithNames_155 (lv_at hl 3 rfl) ?_
                    refine mw_cVN (ci := 0) (k := 3) C0 (m_By_putFrom_gb_tp l D9 cB cI cJ cG a O _ _ (L ++ sl9 t fr (k_bf ty) ++ nm1) t 0 e1 (k_bh ty) wB1 (BR_eq hT ((sG1 2 (by decide)).trans (tFa 2 (by decide)))) z31 htl (by omega) (by omega)) g_300 g_2 g_297 g_299 gs_By_putFrom ⟨by decide +kernel, by decide +kernel, show Option.map (fun d => d.parameters.length) (parseMethodDescriptor y_By_putFrom.desc) = some 3 by decide +kernel⟩ ⟨by decide, by decide⟩ rfl rfl hP hD hS hA rfl ww_3 hl.1 (Nat.le_of_ble_eq_true rfl) rfl d_Re_takeDataWithNames_157 ⟨by decide, by decide⟩ (fun v9 w9 H locs hq hP hD hS => ?_)
                    obtain ⟨I24, F25, hw9, q26⟩ := hq
                    subst hw9
                    obtain ⟨rfl, sfb, y3b, tFb, vBb⟩ := q26
                    have hlmb : (L ++ sl9 t fr (k_bf ty) ++ nm1 ++ sl9 t e1 (k_bh ty)).length = (L ++ sl9 t fr (k_bf ty) ++ nm1).length + (k_bh ty) := by rw [List.length_append, sl9_len (by omega)]
                    rw [← hlmb] at y3b
                    refine lv_iconst (v := 1) hx hb d_Re_takeDataWithNames_160 (by decide) ?_
                    refine lv_topq (y := nI 1) (rfl) ?_
                    exact hret _ _ _ _ _ _ _ hS hP hD d_Re_takeDataWithNames_161 (nr_z (Or.inr rfl)) (Or.inl ⟨_, _, by rw [rdN_1 hsh hr1 hk]; unfold rdF; rw [if_neg (by rintro (⟨z1, z2⟩ | z1) <;> first | omega | (rw [z2] at hsh9; cases hsh9))], rfl, (sm_tr (sm_tr (sm_tr (sm_mo sfa (by decide)) (sm_mo sI14 (by decide))) (sm_mo sn1 (by decide))) (sm_mo sfb (by decide))), (y3b).trans (congrArg nI (by simp only [List.append_assoc])), (((sfb 7 (by decide)).trans z71)).trans (congrArg nI (by omega)), (sm_tr (sm_tr (sm_mo tFa (by decide)) (sm_mo sG1 (by decide))) (sm_mo tFb (by decide))), by simpa only [List.append_assoc] using vBb⟩)
                  · have c23 : ¬ (e1 + (k_bh ty) = to) := fun z9 => c23 ((nI_eq (a := e1 + (k_bh ty)) (b := to) (by omega) (by omega)).mpr z9)
                    refine lv_aload_n hx hb d_Re_takeDataWithNames_133 rfl (lv_at hl 5 rfl) ?_
                    refine lv_iconst (v := 5) hx hb d_Re_takeDataWithNames_134 (by decide) ?_
                    refine lv_topq (y := nI 5) (rfl) ?_
                    refine lv_iload_n hx hb d_Re_takeDataWithNames_135 rfl (lv_at hl 7 rfl) ?_
                    refine mw_cV (ci := 4) (k := 17) C0 (m_Re_fail l D9 cB cI cJ cG a O _ _ (nI 5) _) g_267 g_4 g_264 g_266 gs_Re_fail ⟨by decide +kernel, by decide +kernel, show Option.map (fun d => d.parameters.length) (parseMethodDescriptor y_Re_fail.desc) = some 2 by decide +kernel⟩ ⟨by decide, by decide⟩ rfl rfl hP hD hS hA rfl ww_17 hl.1 (Nat.le_of_ble_eq_true rfl) rfl d_Re_takeDataWithNames_136 ⟨by decide, by decide⟩ (fun v9 w9 H locs hq hP hD hS => ?_)
                    obtain ⟨I27, F28, hw9, q29⟩ := hq
                    subst hw9
                    obtain ⟨rfl, sI27, zI27, rfl⟩ := q29
                    exact hret _ _ _ _ _ _ _ hS hP hD d_Re_takeDataWithNames_139 (nr_z (Or.inl rfl)) (Or.inr ⟨by rw [rdN_1 hsh hr1 hk]; unfold rdF; rw [if_pos (by first | exact Or.inl ⟨by omega, hsh9⟩ | exact Or.inr (by omega))], rfl, (sm_tr (sm_tr (sm_tr (sm_mo sfa (by decide)) (sm_mo sI14 (by decide))) (sm_mo sn1 (by decide))) (sm_mo sI27 (by decide))), (by rw [zI27]; decide), (sm_tr (sm_mo tFa (by decide)) (sm_mo sG1 (by decide))), BR_pre (BR_pre (wB1))⟩)
              · have c21 : ¬ (fw + c_1 ≤ fw) := fun z9 => c21 ((nI_leI (a := fw + c_1) (b := fw) (by omega) (by omega)).mpr z9)
                refine lv_iload_n hx hb d_Re_takeDataWithNames_103 rfl (lv_at hl 6 rfl) ?_
                refine mw_cSN C0 (m_Ki_sharesNames l D9 cB cI cJ cG a O _ _ ty hty) g_343 g_16 g_341 g_342 ⟨by decide +kernel, by decide +kernel, show Option.map (fun d => d.parameters.length) (parseMethodDescriptor y_Ki_sharesNames.desc) = some 1 by decide +kernel⟩ ⟨by decide, by decide⟩ rfl rfl hP hD hS hA hl.1 (Nat.le_of_ble_eq_true rfl) rfl d_Re_takeDataWithNames_104 ⟨by decide, by decide⟩ (fun v9 w9 H locs hq hP hD hS => ?_)
                obtain ⟨I30, F31, hw9, q32⟩ := hq
                subst hw9
                obtain ⟨rfl, rfl, rfl⟩ := q32
                refine lv_topq (y := bI (k_sh ty)) (rfl) ?_
                refine lv_if_ne (tgt := 114) hx hb d_Re_takeDataWithNames_107 (by decide) (fun c33 => ?_) (fun c33 => ?_)
                · have c33 : k_sh ty = true := bI_t c33
                  have hsh9 := c33
                  refine lv_iconst (v := 0) hx hb d_Re_takeDataWithNames_114 (by decide) ?_
                  refine lv_topq (y := nI 0) (rfl) ?_
                  refine lv_istore (lv' := [(8, _), (7, _), (6, _), (5, _), (4, _), (0, _), (1, _), (2, _), (3, _)]) hx hb d_Re_takeDataWithNames_115 hl (by decide) rfl (fun ls hl => ?_)
                  refine lv_iload hx hb d_Re_takeDataWithNames_117 (lv_at hl 0 rfl) ?_
                  refine lv_if_ne (tgt := 133) hx hb d_Re_takeDataWithNames_119 (by decide) (fun c34 => ?_) (fun c34 => ?_)
                  · exact absurd c34 (by decide)
                  · refine lv_aload_n hx hb d_Re_takeDataWithNames_122 rfl (lv_at hl 5 rfl) ?_
                    refine va_get (D := D9) (ci := 4) (C := R_Re) (T := F_Re) (N := 8) hx hb hts i_Re hown hK hP 17 ww_17 rfl 4 (by decide) (hts _ g_125) (fun _ h9 => h9) rfl d_Re_takeDataWithNames_123 ?_
                    refine lv_topq (y := nI e1) (z61) ?_
                    refine lv_iload hx hb d_Re_takeDataWithNames_126 (lv_at hl 3 rfl) ?_
                    refine lv_iadd hx hb d_Re_takeDataWithNames_128 ?_
                    refine lv_topq (y := nI (e1 + (k_bh ty))) (nI_add _ _) ?_
                    refine lv_iload_n hx hb d_Re_takeDataWithNames_129 rfl (lv_at hl 8 rfl) ?_
                    refine lv_icmp_eq (tgt := 140) hx hb d_Re_takeDataWithNames_130 (by decide) (fun c35 => ?_) (fun c35 => ?_)
                    · have c35 : e1 + (k_bh ty) = to := (nI_eq (a := e1 + (k_bh ty)) (b := to) (by omega) (by omega)).mp c35
                      refine lv_aload_n hx hb d_Re_takeDataWithNames_140 rfl (lv_at hl 5 rfl) ?_
                      refine va_get (D := D9) (ci := 4) (C := R_Re) (T := F_Re) (N := 8) hx hb hts i_Re hown hK hP 17 ww_17 rfl 1 (by decide) (hts _ g_121) (fun _ h9 => h9) rfl d_Re_takeDataWithNames_141 ?_
                      refine va_getN (D := D9) (ci := 2) (C := R_Ga) (T := F_Ga) (N := 11) hx hb hts i_Ga hown hK hP 19 ww_19 rfl 0 (by decide) (hts _ g_60) (fun _ h9 => h9) rfl d_Re_takeDataWithNames_144 ?_
                      refine lv_aload_n hx hb d_Re_takeDataWithNames_147 rfl (lv_at hl 5 rfl) ?_
                      refine va_get (D := D9) (ci := 4) (C := R_Re) (T := F_Re) (N := 8) hx hb hts i_Re hown hK hP 17 ww_17 rfl 0 (by decide) (hts _ g_120) (fun _ h9 => h9) rfl d_Re_takeDataWithNames_148 ?_
                      refine lv_aload_n hx hb d_Re_takeDataWithNames_151 rfl (lv_at hl 5 rfl) ?_
                      refine va_get (D := D9) (ci := 4) (C := R_Re) (T := F_Re) (N := 8) hx hb hts i_Re hown hK hP 17 ww_17 rfl 4 (by decide) (hts _ g_125) (fun _ h9 => h9) rfl d_Re_takeDataWithNames_152 ?_
                      refine lv_topq (y := nI e1) (z61) ?_
                      refine lv_iload hx hb d_Re_takeDataWithNames_155 (lv_at hl 3 rfl) ?_
                      refine mw_cVN (ci := 0) (k := 3) C0 (m_By_putFrom_gb_tp l D9 cB cI cJ cG a O _ _ (L ++ sl9 t fr (k_bf ty) ++ nm1) t 0 e1 (k_bh ty) wB1 (BR_eq hT ((sG1 2 (by decide)).trans (tFa 2 (by decide)))) z31 htl (by omega) (by omega)) g_300 g_2 g_297 g_299 gs_By_putFrom ⟨by decide +kernel, by decide +kernel, show Option.map (fun d => d.parameters.length) (parseMethodDescriptor y_By_putFrom.desc) = some 3 by decide +kernel⟩ ⟨by decide, by decide⟩ rfl rfl hP hD hS hA rfl ww_3 hl.1 (Nat.le_of_ble_eq_true rfl) rfl d_Re_takeDataWithNames_157 ⟨by decide, by decide⟩ (fun v9 w9 H locs hq hP hD hS => ?_)
                      obtain ⟨I36, F37, hw9, q38⟩ := hq
                      subst hw9
                      obtain ⟨rfl, sfb, y3b, tFb, vBb⟩ := q38
                      have hlmb : (L ++ sl9 t fr (k_bf ty) ++ nm1 ++ sl9 t e1 (k_bh ty)).length = (L ++ sl9 t fr (k_bf ty) ++ nm1).length + (k_bh ty) := by rw [List.length_append, sl9_len (by omega)]
                      rw [← hlmb] at y3b
                      refine lv_iconst (v := 1) hx hb d_Re_takeDataWithNames_160 (by decide) ?_
                      refine lv_topq (y := nI 1) (rfl) ?_
                      exact hret _ _ _ _ _ _ _ hS hP hD d_Re_takeDataWithNames_161 (nr_z (Or.inr rfl)) (Or.inl ⟨_, _, by rw [rdN_1 hsh hr1 hk]; unfold rdF; rw [if_neg (by rintro (⟨z1, z2⟩ | z1) <;> first | omega | (rw [z2] at hsh9; cases hsh9))], rfl, (sm_tr (sm_tr (sm_tr (sm_mo sfa (by decide)) (sm_mo sI14 (by decide))) (sm_mo sn1 (by decide))) (sm_mo sfb (by decide))), (y3b).trans (congrArg nI (by simp only [List.append_assoc])), (((sfb 7 (by decide)).trans z71)).trans (congrArg nI (by omega)), (sm_tr (sm_tr (sm_mo tFa (by decide)) (sm_mo sG1 (by decide))) (sm_mo tFb (by decide))), by simpa only [List.append_assoc] using vBb⟩)
                    · have c35 : ¬ (e1 + (k_bh ty) = to) := fun z9 => c35 ((nI_eq (a := e1 + (k_bh ty)) (b := to) (by omega) (by omega)).mpr z9)
                      refine lv_aload_n hx hb d_Re_takeDataWithNames_133 rfl (lv_at hl 5 rfl) ?_
                      refine lv_iconst (v := 5) hx hb d_Re_takeDataWithNames_134 (by decide) ?_
                      refine lv_topq (y := nI 5) (rfl) ?_
                      refine lv_iload_n hx hb d_Re_takeDataWithNames_135 rfl (lv_at hl 7 rfl) ?_
                      refine mw_cV (ci := 4) (k := 17) C0 (m_Re_fail l D9 cB cI cJ cG a O _ _ (nI 5) _) g_267 g_4 g_264 g_266 gs_Re_fail ⟨by decide +kernel, by decide +kernel, show Option.map (fun d => d.parameters.length) (parseMethodDescriptor y_Re_fail.desc) = some 2 by decide +kernel⟩ ⟨by decide, by decide⟩ rfl rfl hP hD hS hA rfl ww_17 hl.1 (Nat.le_of_ble_eq_true rfl) rfl d_Re_takeDataWithNames_136 ⟨by decide, by decide⟩ (fun v9 w9 H locs hq hP hD hS => ?_)
                      obtain ⟨I39, F40, hw9, q41⟩ := hq
                      subst hw9
                      obtain ⟨rfl, sI39, zI39, rfl⟩ := q41
                      exact hret _ _ _ _ _ _ _ hS hP hD d_Re_takeDataWithNames_139 (nr_z (Or.inl rfl)) (Or.inr ⟨by rw [rdN_1 hsh hr1 hk]; unfold rdF; rw [if_pos (by first | exact Or.inl ⟨by omega, hsh9⟩ | exact Or.inr (by omega))], rfl, (sm_tr (sm_tr (sm_tr (sm_mo sfa (by decide)) (sm_mo sI14 (by decide))) (sm_mo sn1 (by decide))) (sm_mo sI39 (by decide))), (by rw [zI39]; decide), (sm_tr (sm_mo tFa (by decide)) (sm_mo sG1 (by decide))), BR_pre (BR_pre (wB1))⟩)
                · have c33 : k_sh ty = false := bI_f c33
                  have hsh9 := c33
                  refine lv_iconst (v := 1) hx hb d_Re_takeDataWithNames_110 (by decide) ?_
                  refine lv_topq (y := nI 1) (rfl) ?_
                  refine lv_goto (tgt := 115) hx hb d_Re_takeDataWithNames_111 (by decide) ?_
                  refine lv_istore (lv' := [(8, _), (7, _), (6, _), (5, _), (4, _), (0, _), (1, _), (2, _), (3, _)]) hx hb d_Re_takeDataWithNames_115 hl (by decide) rfl (fun ls hl => ?_)
                  refine lv_iload hx hb d_Re_takeDataWithNames_117 (lv_at hl 0 rfl) ?_
                  refine lv_if_ne (tgt := 133) hx hb d_Re_takeDataWithNames_119 (by decide) (fun c42 => ?_) (fun c42 => ?_)
                  · refine lv_aload_n hx hb d_Re_takeDataWithNames_133 rfl (lv_at hl 5 rfl) ?_
                    refine lv_iconst (v := 5) hx hb d_Re_takeDataWithNames_134 (by decide) ?_
                    refine lv_topq (y := nI 5) (rfl) ?_
                    refine lv_iload_n hx hb d_Re_takeDataWithNames_135 rfl (lv_at hl 7 rfl) ?_
                    refine mw_cV (ci := 4) (k := 17) C0 (m_Re_fail l D9 cB cI cJ cG a O _ _ (nI 5) _) g_267 g_4 g_264 g_266 gs_Re_fail ⟨by decide +kernel, by decide +kernel, show Option.map (fun d => d.parameters.length) (parseMethodDescriptor y_Re_fail.desc) = some 2 by decide +kernel⟩ ⟨by decide, by decide⟩ rfl rfl hP hD hS hA rfl ww_17 hl.1 (Nat.le_of_ble_eq_true rfl) rfl d_Re_takeDataWithNames_136 ⟨by decide, by decide⟩ (fun v9 w9 H locs hq hP hD hS => ?_)
                    obtain ⟨I43, F44, hw9, q45⟩ := hq
                    subst hw9
                    obtain ⟨rfl, sI43, zI43, rfl⟩ := q45
                    exact hret _ _ _ _ _ _ _ hS hP hD d_Re_takeDataWithNames_139 (nr_z (Or.inl rfl)) (Or.inr ⟨by rw [rdN_1 hsh hr1 hk]; unfold rdF; rw [if_pos (by first | exact Or.inl ⟨by omega, hsh9⟩ | exact Or.inr (by omega))], rfl, (sm_tr (sm_tr (sm_tr (sm_mo sfa (by decide)) (sm_mo sI14 (by decide))) (sm_mo sn1 (by decide))) (sm_mo sI43 (by decide))), (by rw [zI43]; decide), (sm_tr (sm_mo tFa (by decide)) (sm_mo sG1 (by decide))), BR_pre (BR_pre (wB1))⟩)
                  · exact absurd c42 (by decide)
            · exact absurd c20 (by decide)
          · exact absurd c19 (by decide)
        · refine lv_if_ne (tgt := 88) hx hb d_Re_takeDataWithNames_83 (by decide) (fun c46 => ?_) (fun c46 => ?_)
          · exact absurd c46 (by decide)
          · refine lv_iconst (v := 0) hx hb d_Re_takeDataWithNames_86 (by decide) ?_
            refine lv_topq (y := nI 0) (rfl) ?_
            exact hret _ _ _ _ _ _ _ hS hP hD d_Re_takeDataWithNames_87 (nr_z (Or.inl rfl)) (Or.inr ⟨rdN_n1 hsh hr1, rfl, (sm_tr (sm_tr (sm_mo sfa (by decide)) (sm_mo sI14 (by decide))) (sm_mo sn1 (by decide))), z31, (sm_tr (sm_mo tFa (by decide)) (sm_mo sG1 (by decide))), BR_pre wB1⟩)
    · have c10 : ¬ (fr + (k_bf ty) ≤ to) := fun z9 => c10 ((nI_leI (a := fr + (k_bf ty)) (b := to) (by omega) (by omega)).mpr z9)
      refine lv_aload_n hx hb d_Re_takeDataWithNames_32 rfl (lv_at hl 4 rfl) ?_
      refine lv_iconst (v := 5) hx hb d_Re_takeDataWithNames_33 (by decide) ?_
      refine lv_topq (y := nI 5) (rfl) ?_
      refine lv_iload_n hx hb d_Re_takeDataWithNames_34 rfl (lv_at hl 6 rfl) ?_
      refine mw_cV (ci := 4) (k := 17) C0 (m_Re_fail l D9 cB cI cJ cG a O _ _ (nI 5) _) g_267 g_4 g_264 g_266 gs_Re_fail ⟨by decide +kernel, by decide +kernel, show Option.map (fun d => d.parameters.length) (parseMethodDescriptor y_Re_fail.desc) = some 2 by decide +kernel⟩ ⟨by decide, by decide⟩ rfl rfl hP hD hS hA rfl ww_17 hl.1 (Nat.le_of_ble_eq_true rfl) rfl d_Re_takeDataWithNames_35 ⟨by decide, by decide⟩ (fun v9 w9 H locs hq hP hD hS => ?_)
      obtain ⟨I47, F48, hw9, q49⟩ := hq
      subst hw9
      obtain ⟨rfl, sI47, zI47, rfl⟩ := q49
      exact hret _ _ _ _ _ _ _ hS hP hD d_Re_takeDataWithNames_38 (nr_z (Or.inl rfl)) (Or.inr ⟨rdN_short (by omega), rfl, (sm_mo sI47 (by decide)), (by rw [zI47]; decide), sm_rf, hBL⟩)
  · refine lv_topq (y := nI 2) (congrArg nI hk) ?_
    refine lv_istore (lv' := [(6, _), (5, _), (4, _), (0, _), (1, _), (2, _), (3, _)]) hx hb d_Re_takeDataWithNames_16 hl (by decide) rfl (fun ls hl => ?_)
    refine lv_aload_n hx hb d_Re_takeDataWithNames_18 rfl (lv_at hl 3 rfl) ?_
    refine va_get (D := D9) (ci := 4) (C := R_Re) (T := F_Re) (N := 8) hx hb hts i_Re hown hK hP 17 ww_17 rfl 5 (by decide) (hts _ g_126) (fun _ h9 => h9) rfl d_Re_takeDataWithNames_19 ?_
    refine lv_topq (y := nI fw) (hfw) ?_
    refine lv_istore (lv' := [(7, _), (6, _), (5, _), (4, _), (0, _), (1, _), (2, _), (3, _)]) hx hb d_Re_takeDataWithNames_22 hl (by decide) rfl (fun ls hl => ?_)
    refine lv_iload_n hx hb d_Re_takeDataWithNames_24 rfl (lv_at hl 6 rfl) ?_
    refine lv_iload hx hb d_Re_takeDataWithNames_25 (lv_at hl 3 rfl) ?_
    refine lv_iadd hx hb d_Re_takeDataWithNames_27 ?_
    refine lv_topq (y := nI (fr + (k_bf ty))) (nI_add _ _) ?_
    refine lv_iload_n hx hb d_Re_takeDataWithNames_28 rfl (lv_at hl 7 rfl) ?_
    refine lv_icmp_le (tgt := 39) hx hb d_Re_takeDataWithNames_29 (by decide) (fun c50 => ?_) (fun c50 => ?_)
    · have c50 : fr + (k_bf ty) ≤ to := (nI_leI (a := fr + (k_bf ty)) (b := to) (by omega) (by omega)).mp c50
      have hsh : ¬ to < fr + k_bf ty := by omega
      refine lv_aload_n hx hb d_Re_takeDataWithNames_39 rfl (lv_at hl 4 rfl) ?_
      refine va_get (D := D9) (ci := 4) (C := R_Re) (T := F_Re) (N := 8) hx hb hts i_Re hown hK hP 17 ww_17 rfl 1 (by decide) (hts _ g_121) (fun _ h9 => h9) rfl d_Re_takeDataWithNames_40 ?_
      refine va_getN (D := D9) (ci := 2) (C := R_Ga) (T := F_Ga) (N := 11) hx hb hts i_Ga hown hK hP 19 ww_19 rfl 0 (by decide) (hts _ g_60) (fun _ h9 => h9) rfl d_Re_takeDataWithNames_43 ?_
      refine lv_aload_n hx hb d_Re_takeDataWithNames_46 rfl (lv_at hl 4 rfl) ?_
      refine va_get (D := D9) (ci := 4) (C := R_Re) (T := F_Re) (N := 8) hx hb hts i_Re hown hK hP 17 ww_17 rfl 0 (by decide) (hts _ g_120) (fun _ h9 => h9) rfl d_Re_takeDataWithNames_47 ?_
      refine lv_iload_n hx hb d_Re_takeDataWithNames_50 rfl (lv_at hl 6 rfl) ?_
      refine lv_iload hx hb d_Re_takeDataWithNames_51 (lv_at hl 3 rfl) ?_
      refine mw_cVN (ci := 0) (k := 3) C0 (m_By_putFrom_gb_tp l D9 cB cI cJ cG a O _ _ L t 0 fr (k_bf ty) hBL hT hL3 htl (by omega) (by omega)) g_300 g_2 g_297 g_299 gs_By_putFrom ⟨by decide +kernel, by decide +kernel, show Option.map (fun d => d.parameters.length) (parseMethodDescriptor y_By_putFrom.desc) = some 3 by decide +kernel⟩ ⟨by decide, by decide⟩ rfl rfl hP hD hS hA rfl ww_3 hl.1 (Nat.le_of_ble_eq_true rfl) rfl d_Re_takeDataWithNames_53 ⟨by decide, by decide⟩ (fun v9 w9 H locs hq hP hD hS => ?_)
      obtain ⟨I51, F52, hw9, q53⟩ := hq
      subst hw9
      obtain ⟨rfl, sfa, y3a, tFa, vBa⟩ := q53
      have hlma : (L ++ sl9 t fr (k_bf ty)).length = L.length + (k_bf ty) := by rw [List.length_append, sl9_len (by omega)]
      rw [← hlma] at y3a
      refine lv_aload_n hx hb d_Re_takeDataWithNames_56 rfl (lv_at hl 4 rfl) ?_
      refine lv_iload_n hx hb d_Re_takeDataWithNames_57 rfl (lv_at hl 6 rfl) ?_
      refine lv_iload hx hb d_Re_takeDataWithNames_58 (lv_at hl 3 rfl) ?_
      refine lv_iadd hx hb d_Re_takeDataWithNames_60 ?_
      refine lv_topq (y := nI (fr + (k_bf ty))) (nI_add _ _) ?_
      refine va_put (D := D9) (ty := .int) (ci := 4) (C := R_Re) (T := F_Re) (N := 8) hx hb hts i_Re t_Re t_Re_ok n_Re hown hK hP hD hS 17 ww_17 rfl 4 (by decide) (hts _ g_125) (fun _ h9 => h9) rfl (by decide +kernel) rfl rfl (Nat.le_of_ble_eq_true rfl) d_Re_takeDataWithNames_61 (fun H locs hP hD hS => ?_)
      obtain ⟨I54, aI54, sI54, hP, hD⟩ := fx (P := fun z => va_P D9 cls9 (WW a cB cI cJ cG z _ O) H ∧ va_D A0 (WW a cB cI cJ cG z _ O)) ⟨wp_6 hP, wd_6 hD⟩
      refine lv_iconst (v := 0) hx hb d_Re_takeDataWithNames_64 (by decide) ?_
      refine lv_topq (y := nI 0) (rfl) ?_
      refine lv_istore (lv' := [(8, _), (7, _), (6, _), (5, _), (4, _), (0, _), (1, _), (2, _), (3, _)]) hx hb d_Re_takeDataWithNames_65 hl (by decide) rfl (fun ls hl => ?_)
      refine lv_iload hx hb d_Re_takeDataWithNames_67 (lv_at hl 0 rfl) ?_
      refine lv_iload hx hb d_Re_takeDataWithNames_69 (lv_at hl 2 rfl) ?_
      refine lv_icmp_ge (tgt := 94) hx hb d_Re_takeDataWithNames_71 (by decide) (fun c55 => ?_) (fun c55 => ?_)
      · exact absurd c55 (by decide)
      · refine lv_aload_n hx hb d_Re_takeDataWithNames_74 rfl (lv_at hl 5 rfl) ?_
        refine lv_aload_n hx hb d_Re_takeDataWithNames_75 rfl (lv_at hl 5 rfl) ?_
        refine va_get (D := D9) (ci := 4) (C := R_Re) (T := F_Re) (N := 8) hx hb hts i_Re hown hK hP 17 ww_17 rfl 4 (by decide) (hts _ g_125) (fun _ h9 => h9) rfl d_Re_takeDataWithNames_76 ?_
        refine lv_topq (y := nI (fr + (k_bf ty))) (aI54) ?_
        refine lv_iload_n hx hb d_Re_takeDataWithNames_79 rfl (lv_at hl 8 rfl) ?_
        refine mw_cV (ci := 4) (k := 17) C0 (m_Re_takeName l D9 cB cI cJ cG a O _ _ t (((sI54 2 (by decide)).trans (sfa 2 (by decide))).trans hT2) htl (BR_eq hT (tFa 2 (by decide))) (L ++ sl9 t fr (k_bf ty)) to (fr + (k_bf ty)) fw ((sI54 3 (by decide)).trans y3a) (by omega) vBa (by omega) (by omega) ((sI54 7 (by decide)).trans ((sfa 7 (by decide)).trans hfw))) g_279 g_4 g_276 g_278 gs_Re_takeName ⟨by decide +kernel, by decide +kernel, show Option.map (fun d => d.parameters.length) (parseMethodDescriptor y_Re_takeName.desc) = some 2 by decide +kernel⟩ ⟨by decide, by decide⟩ rfl rfl hP hD hS hA rfl ww_17 hl.1 (Nat.le_of_ble_eq_true rfl) rfl d_Re_takeDataWithNames_80 ⟨by decide, by decide⟩ (fun v9 w9 H locs hq hP hD hS => ?_)
        obtain ⟨I56, F57, hw9, q58⟩ := hq
        subst hw9
        rcases q58 with ⟨nm1, e1, c_1, hr1, rfl, sn1, z31, z61, z71, sG1, wB1⟩ | ⟨hr1, rfl, sn1, z31, sG1, wB1⟩
        · have hbd1 := rn_bd hr1 (by decide)
          have hln1 : (L ++ sl9 t fr (k_bf ty) ++ nm1).length = (L ++ sl9 t fr (k_bf ty)).length + nm1.length := List.length_append
          refine lv_if_ne (tgt := 88) hx hb d_Re_takeDataWithNames_83 (by decide) (fun c59 => ?_) (fun c59 => ?_)
          · refine lv_iinc (lv' := [(8, .int (nI 1)), (7, _), (6, _), (5, _), (4, _), (0, _), (1, _), (2, _), (3, _)]) hx hb d_Re_takeDataWithNames_88 hl (k := 0) rfl rfl (by decide) rfl (fun ls hl => ?_)
            refine lv_goto (tgt := 67) hx hb d_Re_takeDataWithNames_91 (by decide) ?_
            refine lv_iload hx hb d_Re_takeDataWithNames_67 (lv_at hl 0 rfl) ?_
            refine lv_iload hx hb d_Re_takeDataWithNames_69 (lv_at hl 2 rfl) ?_
            refine lv_icmp_ge (tgt := 94) hx hb d_Re_takeDataWithNames_71 (by decide) (fun c60 => ?_) (fun c60 => ?_)
            · exact absurd c60 (by decide)
            · refine lv_aload_n hx hb d_Re_takeDataWithNames_74 rfl (lv_at hl 5 rfl) ?_
              refine lv_aload_n hx hb d_Re_takeDataWithNames_75 rfl (lv_at hl 5 rfl) ?_
              refine va_get (D := D9) (ci := 4) (C := R_Re) (T := F_Re) (N := 8) hx hb hts i_Re hown hK hP 17 ww_17 rfl 4 (by decide) (hts _ g_125) (fun _ h9 => h9) rfl d_Re_takeDataWithNames_76 ?_
              refine lv_topq (y := nI e1) (z61) ?_
              refine lv_iload_n hx hb d_Re_takeDataWithNames_79 rfl (lv_at hl 8 rfl) ?_
              refine mw_cV (ci := 4) (k := 17) C0 (m_Re_takeName l D9 cB cI cJ cG a O _ _ t (((sn1 2 (by decide)).trans ((sI54 2 (by decide)).trans (sfa 2 (by decide)))).trans hT2) htl (BR_eq hT ((sG1 2 (by decide)).trans (tFa 2 (by decide)))) (L ++ sl9 t fr (k_bf ty) ++ nm1) to e1 (fw + c_1) z31 (by omega) wB1 (by omega) (by omega) z71) g_279 g_4 g_276 g_278 gs_Re_takeName ⟨by decide +kernel, by decide +kernel, show Option.map (fun d => d.parameters.length) (parseMethodDescriptor y_Re_takeName.desc) = some 2 by decide +kernel⟩ ⟨by decide, by decide⟩ rfl rfl hP hD hS hA rfl ww_17 hl.1 (Nat.le_of_ble_eq_true rfl) rfl d_Re_takeDataWithNames_80 ⟨by decide, by decide⟩ (fun v9 w9 H locs hq hP hD hS => ?_)
              obtain ⟨I61, F62, hw9, q63⟩ := hq
              subst hw9
              rcases q63 with ⟨nm2, e2, c_2, hr2, rfl, sn2, z32, z62, z72, sG2, wB2⟩ | ⟨hr2, rfl, sn2, z32, sG2, wB2⟩
              · have hbd2 := rn_bd hr2 (by decide)
                have hln2 : (L ++ sl9 t fr (k_bf ty) ++ nm1 ++ nm2).length = (L ++ sl9 t fr (k_bf ty) ++ nm1).length + nm2.length := List.length_append
                refine lv_if_ne (tgt := 88) hx hb d_Re_takeDataWithNames_83 (by decide) (fun c64 => ?_) (fun c64 => ?_)
                · refine lv_iinc (lv' := [(8, .int (nI 2)), (7, _), (6, _), (5, _), (4, _), (0, _), (1, _), (2, _), (3, _)]) hx hb d_Re_takeDataWithNames_88 hl (k := 0) rfl rfl (by decide) rfl (fun ls hl => ?_)
                  refine lv_goto (tgt := 67) hx hb d_Re_takeDataWithNames_91 (by decide) ?_
                  refine lv_iload hx hb d_Re_takeDataWithNames_67 (lv_at hl 0 rfl) ?_
                  refine lv_iload hx hb d_Re_takeDataWithNames_69 (lv_at hl 2 rfl) ?_
                  refine lv_icmp_ge (tgt := 94) hx hb d_Re_takeDataWithNames_71 (by decide) (fun c65 => ?_) (fun c65 => ?_)
                  · refine lv_aload_n hx hb d_Re_takeDataWithNames_94 rfl (lv_at hl 5 rfl) ?_
                    refine va_get (D := D9) (ci := 4) (C := R_Re) (T := F_Re) (N := 8) hx hb hts i_Re hown hK hP 17 ww_17 rfl 5 (by decide) (hts _ g_126) (fun _ h9 => h9) rfl d_Re_takeDataWithNames_95 ?_
                    refine lv_topq (y := nI (fw + c_1 + c_2)) (z72) ?_
                    refine lv_iload hx hb d_Re_takeDataWithNames_98 (lv_at hl 1 rfl) ?_
                    refine lv_icmp_le (tgt := 114) hx hb d_Re_takeDataWithNames_100 (by decide) (fun c66 => ?_) (fun c66 => ?_)
                    · have c66 : fw + c_1 + c_2 ≤ fw := (nI_leI (a := fw + c_1 + c_2) (b := fw) (by omega) (by omega)).mp c66
                      refine lv_iconst (v := 0) hx hb d_Re_takeDataWithNames_114 (by decide) ?_
                      refine lv_topq (y := nI 0) (rfl) ?_
                      refine lv_istore (lv' := [(8, _), (7, _), (6, _), (5, _), (4, _), (0, _), (1, _), (2, _), (3, _)]) hx hb d_Re_takeDataWithNames_115 hl (by decide) rfl (fun ls hl => ?_)
                      refine lv_iload hx hb d_Re_takeDataWithNames_117 (lv_at hl 0 rfl) ?_
                      refine lv_if_ne (tgt := 133) hx hb d_Re_takeDataWithNames_119 (by decide) (fun c67 => ?_) (fun c67 => ?_)
                      · exact absurd c67 (by decide)
                      · refine lv_aload_n hx hb d_Re_takeDataWithNames_122 rfl (lv_at hl 5 rfl) ?_
                        refine va_get (D := D9) (ci := 4) (C := R_Re) (T := F_Re) (N := 8) hx hb hts i_Re hown hK hP 17 ww_17 rfl 4 (by decide) (hts _ g_125) (fun _ h9 => h9) rfl d_Re_takeDataWithNames_123 ?_
                        refine lv_topq (y := nI e2) (z62) ?_
                        refine lv_iload hx hb d_Re_takeDataWithNames_126 (lv_at hl 3 rfl) ?_
                        refine lv_iadd hx hb d_Re_takeDataWithNames_128 ?_
                        refine lv_topq (y := nI (e2 + (k_bh ty))) (nI_add _ _) ?_
                        refine lv_iload_n hx hb d_Re_takeDataWithNames_129 rfl (lv_at hl 8 rfl) ?_
                        refine lv_icmp_eq (tgt := 140) hx hb d_Re_takeDataWithNames_130 (by decide) (fun c68 => ?_) (fun c68 => ?_)
                        · have c68 : e2 + (k_bh ty) = to := (nI_eq (a := e2 + (k_bh ty)) (b := to) (by omega) (by omega)).mp c68
                          refine lv_aload_n hx hb d_Re_takeDataWithNames_140 rfl (lv_at hl 5 rfl) ?_
                          refine va_get (D := D9) (ci := 4) (C := R_Re) (T := F_Re) (N := 8) hx hb hts i_Re hown hK hP 17 ww_17 rfl 1 (by decide) (hts _ g_121) (fun _ h9 => h9) rfl d_Re_takeDataWithNames_141 ?_
                          refine va_getN (D := D9) (ci := 2) (C := R_Ga) (T := F_Ga) (N := 11) hx hb hts i_Ga hown hK hP 19 ww_19 rfl 0 (by decide) (hts _ g_60) (fun _ h9 => h9) rfl d_Re_takeDataWithNames_144 ?_
                          refine lv_aload_n hx hb d_Re_takeDataWithNames_147 rfl (lv_at hl 5 rfl) ?_
                          refine va_get (D := D9) (ci := 4) (C := R_Re) (T := F_Re) (N := 8) hx hb hts i_Re hown hK hP 17 ww_17 rfl 0 (by decide) (hts _ g_120) (fun _ h9 => h9) rfl d_Re_takeDataWithNames_148 ?_
                          refine lv_aload_n hx hb d_Re_takeDataWithNames_151 rfl (lv_at hl 5 rfl) ?_
                          refine va_get (D := D9) (ci := 4) (C := R_Re) (T := F_Re) (N := 8) hx hb hts i_Re hown hK hP 17 ww_17 rfl 4 (by decide) (hts _ g_125) (fun _ h9 => h9) rfl d_Re_takeDataWithNames_152 ?_
                          refine lv_topq (y := nI e2) (z62) ?_
                          refine lv_iload hx hb d_Re_takeDataWithNames_155 (lv_at hl 3 rfl) ?_
                          refine mw_cVN (ci := 0) (k := 3) C0 (m_By_putFrom_gb_tp l D9 cB cI cJ cG a O _ _ (L ++ sl9 t fr (k_bf ty) ++ nm1 ++ nm2) t 0 e2 (k_bh ty) wB2 (BR_eq hT ((sG2 2 (by decide)).trans ((sG1 2 (by decide)).trans (tFa 2 (by decide))))) z32 htl (by omega) (by omega)) g_300 g_2 g_297 g_299 gs_By_putFrom ⟨by decide +kernel, by decide +kernel, show Option.map (fun d => d.parameters.length) (parseMethodDescriptor y_By_putFrom.desc) = some 3 by decide +kernel⟩ ⟨by decide, by decide⟩ rfl rfl hP hD hS hA rfl ww_3 hl.1 (Nat.le_of_ble_eq_true rfl) rfl d_Re_takeDataWithNames_157 ⟨by decide, by decide⟩ (fun v9 w9 H locs hq hP hD hS => ?_)
                          obtain ⟨I69, F70, hw9, q71⟩ := hq
                          subst hw9
                          obtain ⟨rfl, sfb, y3b, tFb, vBb⟩ := q71
                          have hlmb : (L ++ sl9 t fr (k_bf ty) ++ nm1 ++ nm2 ++ sl9 t e2 (k_bh ty)).length = (L ++ sl9 t fr (k_bf ty) ++ nm1 ++ nm2).length + (k_bh ty) := by rw [List.length_append, sl9_len (by omega)]
                          rw [← hlmb] at y3b
                          refine lv_iconst (v := 1) hx hb d_Re_takeDataWithNames_160 (by decide) ?_
                          refine lv_topq (y := nI 1) (rfl) ?_
                          exact hret _ _ _ _ _ _ _ hS hP hD d_Re_takeDataWithNames_161 (nr_z (Or.inr rfl)) (Or.inl ⟨_, _, by rw [rdN_2 hsh hr1 hk hr2]; unfold rdF; rw [if_neg (by rintro (⟨z1, z2⟩ | z1) <;> first | omega | (rw [z2] at hsh9; cases hsh9))], rfl, (sm_tr (sm_tr (sm_tr (sm_tr (sm_mo sfa (by decide)) (sm_mo sI54 (by decide))) (sm_mo sn1 (by decide))) (sm_mo sn2 (by decide))) (sm_mo sfb (by decide))), (y3b).trans (congrArg nI (by simp only [List.append_assoc])), (((sfb 7 (by decide)).trans z72)).trans (congrArg nI (by omega)), (sm_tr (sm_tr (sm_tr (sm_mo tFa (by decide)) (sm_mo sG1 (by decide))) (sm_mo sG2 (by decide))) (sm_mo tFb (by decide))), by simpa only [List.append_assoc] using vBb⟩)
                        · have c68 : ¬ (e2 + (k_bh ty) = to) := fun z9 => c68 ((nI_eq (a := e2 + (k_bh ty)) (b := to) (by omega) (by omega)).mpr z9)
                          refine lv_aload_n hx hb d_Re_takeDataWithNames_133 rfl (lv_at hl 5 rfl) ?_
                          refine lv_iconst (v := 5) hx hb d_Re_takeDataWithNames_134 (by decide) ?_
                          refine lv_topq (y := nI 5) (rfl) ?_
                          refine lv_iload_n hx hb d_Re_takeDataWithNames_135 rfl (lv_at hl 7 rfl) ?_
                          refine mw_cV (ci := 4) (k := 17) C0 (m_Re_fail l D9 cB cI cJ cG a O _ _ (nI 5) _) g_267 g_4 g_264 g_266 gs_Re_fail ⟨by decide +kernel, by decide +kernel, show Option.map (fun d => d.parameters.length) (parseMethodDescriptor y_Re_fail.desc) = some 2 by decide +kernel⟩ ⟨by decide, by decide⟩ rfl rfl hP hD hS hA rfl ww_17 hl.1 (Nat.le_of_ble_eq_true rfl) rfl d_Re_takeDataWithNames_136 ⟨by decide, by decide⟩ (fun v9 w9 H locs hq hP hD hS => ?_)
                          obtain ⟨I72, F73, hw9, q74⟩ := hq
                          subst hw9
                          obtain ⟨rfl, sI72, zI72, rfl⟩ := q74
                          exact hret _ _ _ _ _ _ _ hS hP hD d_Re_takeDataWithNames_139 (nr_z (Or.inl rfl)) (Or.inr ⟨by rw [rdN_2 hsh hr1 hk hr2]; unfold rdF; rw [if_pos (by first | exact Or.inl ⟨by omega, hsh9⟩ | exact Or.inr (by omega))], rfl, (sm_tr (sm_tr (sm_tr (sm_tr (sm_mo sfa (by decide)) (sm_mo sI54 (by decide))) (sm_mo sn1 (by decide))) (sm_mo sn2 (by decide))) (sm_mo sI72 (by decide))), (by rw [zI72]; decide), (sm_tr (sm_tr (sm_mo tFa (by decide)) (sm_mo sG1 (by decide))) (sm_mo sG2 (by decide))), BR_pre (BR_pre (BR_pre (wB2)))⟩)
                    · have c66 : ¬ (fw + c_1 + c_2 ≤ fw) := fun z9 => c66 ((nI_leI (a := fw + c_1 + c_2) (b := fw) (by omega) (by omega)).mpr z9)
                      refine lv_iload_n hx hb d_Re_takeDataWithNames_103 rfl (lv_at hl 6 rfl) ?_
                      refine mw_cSN C0 (m_Ki_sharesNames l D9 cB cI cJ cG a O _ _ ty hty) g_343 g_16 g_341 g_342 ⟨by decide +kernel, by decide +kernel, show Option.map (fun d => d.parameters.length) (parseMethodDescriptor y_Ki_sharesNames.desc) = some 1 by decide +kernel⟩ ⟨by decide, by decide⟩ rfl rfl hP hD hS hA hl.1 (Nat.le_of_ble_eq_true rfl) rfl d_Re_takeDataWithNames_104 ⟨by decide, by decide⟩ (fun v9 w9 H locs hq hP hD hS => ?_)
                      obtain ⟨I75, F76, hw9, q77⟩ := hq
                      subst hw9
                      obtain ⟨rfl, rfl, rfl⟩ := q77
                      refine lv_topq (y := bI (k_sh ty)) (rfl) ?_
                      refine lv_if_ne (tgt := 114) hx hb d_Re_takeDataWithNames_107 (by decide) (fun c78 => ?_) (fun c78 => ?_)
                      · have c78 : k_sh ty = true := bI_t c78
                        have hsh9 := c78
                        refine lv_iconst (v := 0) hx hb d_Re_takeDataWithNames_114 (by decide) ?_
                        refine lv_topq (y := nI 0) (rfl) ?_
                        refine lv_istore (lv' := [(8, _), (7, _), (6, _), (5, _), (4, _), (0, _), (1, _), (2, _), (3, _)]) hx hb d_Re_takeDataWithNames_115 hl (by decide) rfl (fun ls hl => ?_)
                        refine lv_iload hx hb d_Re_takeDataWithNames_117 (lv_at hl 0 rfl) ?_
                        refine lv_if_ne (tgt := 133) hx hb d_Re_takeDataWithNames_119 (by decide) (fun c79 => ?_) (fun c79 => ?_)
                        · exact absurd c79 (by decide)
                        · refine lv_aload_n hx hb d_Re_takeDataWithNames_122 rfl (lv_at hl 5 rfl) ?_
                          refine va_get (D := D9) (ci := 4) (C := R_Re) (T := F_Re) (N := 8) hx hb hts i_Re hown hK hP 17 ww_17 rfl 4 (by decide) (hts _ g_125) (fun _ h9 => h9) rfl d_Re_takeDataWithNames_123 ?_
                          refine lv_topq (y := nI e2) (z62) ?_
                          refine lv_iload hx hb d_Re_takeDataWithNames_126 (lv_at hl 3 rfl) ?_
                          refine lv_iadd hx hb d_Re_takeDataWithNames_128 ?_
                          refine lv_topq (y := nI (e2 + (k_bh ty))) (nI_add _ _) ?_
                          refine lv_iload_n hx hb d_Re_takeDataWithNames_129 rfl (lv_at hl 8 rfl) ?_
                          refine lv_icmp_eq (tgt := 140) hx hb d_Re_takeDataWithNames_130 (by decide) (fun c80 => ?_) (fun c80 => ?_)
                          · have c80 : e2 + (k_bh ty) = to := (nI_eq (a := e2 + (k_bh ty)) (b := to) (by omega) (by omega)).mp c80
                            refine lv_aload_n hx hb d_Re_takeDataWithNames_140 rfl (lv_at hl 5 rfl) ?_
                            refine va_get (D := D9) (ci := 4) (C := R_Re) (T := F_Re) (N := 8) hx hb hts i_Re hown hK hP 17 ww_17 rfl 1 (by decide) (hts _ g_121) (fun _ h9 => h9) rfl d_Re_takeDataWithNames_141 ?_
                            refine va_getN (D := D9) (ci := 2) (C := R_Ga) (T := F_Ga) (N := 11) hx hb hts i_Ga hown hK hP 19 ww_19 rfl 0 (by decide) (hts _ g_60) (fun _ h9 => h9) rfl d_Re_takeDataWithNames_144 ?_
                            refine lv_aload_n hx hb d_Re_takeDataWithNames_147 rfl (lv_at hl 5 rfl) ?_
                            refine va_get (D := D9) (ci := 4) (C := R_Re) (T := F_Re) (N := 8) hx hb hts i_Re hown hK hP 17 ww_17 rfl 0 (by decide) (hts _ g_120) (fun _ h9 => h9) rfl d_Re_takeDataWithNames_148 ?_
                            refine lv_aload_n hx hb d_Re_takeDataWithNames_151 rfl (lv_at hl 5 rfl) ?_
                            refine va_get (D := D9) (ci := 4) (C := R_Re) (T := F_Re) (N := 8) hx hb hts i_Re hown hK hP 17 ww_17 rfl 4 (by decide) (hts _ g_125) (fun _ h9 => h9) rfl d_Re_takeDataWithNames_152 ?_
                            refine lv_topq (y := nI e2) (z62) ?_
                            refine lv_iload hx hb d_Re_takeDataWithNames_155 (lv_at hl 3 rfl) ?_
                            refine mw_cVN (ci := 0) (k := 3) C0 (m_By_putFrom_gb_tp l D9 cB cI cJ cG a O _ _ (L ++ sl9 t fr (k_bf ty) ++ nm1 ++ nm2) t 0 e2 (k_bh ty) wB2 (BR_eq hT ((sG2 2 (by decide)).trans ((sG1 2 (by decide)).trans (tFa 2 (by decide))))) z32 htl (by omega) (by omega)) g_300 g_2 g_297 g_299 gs_By_putFrom ⟨by decide +kernel, by decide +kernel, show Option.map (fun d => d.parameters.length) (parseMethodDescriptor y_By_putFrom.desc) = some 3 by decide +kernel⟩ ⟨by decide, by decide⟩ rfl rfl hP hD hS hA rfl ww_3 hl.1 (Nat.le_of_ble_eq_true rfl) rfl d_Re_takeDataWithNames_157 ⟨by decide, by decide⟩ (fun v9 w9 H locs hq hP hD hS => ?_)
                            obtain ⟨I81, F82, hw9, q83⟩ := hq
                            subst hw9
                            obtain ⟨rfl, sfb, y3b, tFb, vBb⟩ := q83
                            have hlmb : (L ++ sl9 t fr (k_bf ty) ++ nm1 ++ nm2 ++ sl9 t e2 (k_bh ty)).length = (L ++ sl9 t fr (k_bf ty) ++ nm1 ++ nm2).length + (k_bh ty) := by rw [List.length_append, sl9_len (by omega)]
                            rw [← hlmb] at y3b
                            refine lv_iconst (v := 1) hx hb d_Re_takeDataWithNames_160 (by decide) ?_
                            refine lv_topq (y := nI 1) (rfl) ?_
                            exact hret _ _ _ _ _ _ _ hS hP hD d_Re_takeDataWithNames_161 (nr_z (Or.inr rfl)) (Or.inl ⟨_, _, by rw [rdN_2 hsh hr1 hk hr2]; unfold rdF; rw [if_neg (by rintro (⟨z1, z2⟩ | z1) <;> first | omega | (rw [z2] at hsh9; cases hsh9))], rfl, (sm_tr (sm_tr (sm_tr (sm_tr (sm_mo sfa (by decide)) (sm_mo sI54 (by decide))) (sm_mo sn1 (by decide))) (sm_mo sn2 (by decide))) (sm_mo sfb (by decide))), (y3b).trans (congrArg nI (by simp only [List.append_assoc])), (((sfb 7 (by decide)).trans z72)).trans (congrArg nI (by omega)), (sm_tr (sm_tr (sm_tr (sm_mo tFa (by decide)) (sm_mo sG1 (by decide))) (sm_mo sG2 (by decide))) (sm_mo tFb (by decide))), by simpa only [List.append_assoc] using vBb⟩)
                          · have c80 : ¬ (e2 + (k_bh ty) = to) := fun z9 => c80 ((nI_eq (a := e2 + (k_bh ty)) (b := to) (by omega) (by omega)).mpr z9)
                            refine lv_aload_n hx hb d_Re_takeDataWithNames_133 rfl (lv_at hl 5 rfl) ?_
                            refine lv_iconst (v := 5) hx hb d_Re_takeDataWithNames_134 (by decide) ?_
                            refine lv_topq (y := nI 5) (rfl) ?_
                            refine lv_iload_n hx hb d_Re_takeDataWithNames_135 rfl (lv_at hl 7 rfl) ?_
                            refine mw_cV (ci := 4) (k := 17) C0 (m_Re_fail l D9 cB cI cJ cG a O _ _ (nI 5) _) g_267 g_4 g_264 g_266 gs_Re_fail ⟨by decide +kernel, by decide +kernel, show Option.map (fun d => d.parameters.length) (parseMethodDescriptor y_Re_fail.desc) = some 2 by decide +kernel⟩ ⟨by decide, by decide⟩ rfl rfl hP hD hS hA rfl ww_17 hl.1 (Nat.le_of_ble_eq_true rfl) rfl d_Re_takeDataWithNames_136 ⟨by decide, by decide⟩ (fun v9 w9 H locs hq hP hD hS => ?_)
                            obtain ⟨I84, F85, hw9, q86⟩ := hq
                            subst hw9
                            obtain ⟨rfl, sI84, zI84, rfl⟩ := q86
                            exact hret _ _ _ _ _ _ _ hS hP hD d_Re_takeDataWithNames_139 (nr_z (Or.inl rfl)) (Or.inr ⟨by rw [rdN_2 hsh hr1 hk hr2]; unfold rdF; rw [if_pos (by first | exact Or.inl ⟨by omega, hsh9⟩ | exact Or.inr (by omega))], rfl, (sm_tr (sm_tr (sm_tr (sm_tr (sm_mo sfa (by decide)) (sm_mo sI54 (by decide))) (sm_mo sn1 (by decide))) (sm_mo sn2 (by decide))) (sm_mo sI84 (by decide))), (by rw [zI84]; decide), (sm_tr (sm_tr (sm_mo tFa (by decide)) (sm_mo sG1 (by decide))) (sm_mo sG2 (by decide))), BR_pre (BR_pre (BR_pre (wB2)))⟩)
                      · have c78 : k_sh ty = false := bI_f c78
                        have hsh9 := c78
                        refine lv_iconst (v := 1) hx hb d_Re_takeDataWithNames_110 (by decide) ?_
                        refine lv_topq (y := nI 1) (rfl) ?_
                        refine lv_goto (tgt := 115) hx hb d_Re_takeDataWithNames_111 (by decide) ?_
                        refine lv_istore (lv' := [(8, _), (7, _), (6, _), (5, _), (4, _), (0, _), (1, _), (2, _), (3, _)]) hx hb d_Re_takeDataWithNames_115 hl (by decide) rfl (fun ls hl => ?_)
                        refine lv_iload hx hb d_Re_takeDataWithNames_117 (lv_at hl 0 rfl) ?_
                        refine lv_if_ne (tgt := 133) hx hb d_Re_takeDataWithNames_119 (by decide) (fun c87 => ?_) (fun c87 => ?_)
                        · refine lv_aload_n hx hb d_Re_takeDataWithNames_133 rfl (lv_at hl 5 rfl) ?_
                          refine lv_iconst (v := 5) hx hb d_Re_takeDataWithNames_134 (by decide) ?_
                          refine lv_topq (y := nI 5) (rfl) ?_
                          refine lv_iload_n hx hb d_Re_takeDataWithNames_135 rfl (lv_at hl 7 rfl) ?_
                          refine mw_cV (ci := 4) (k := 17) C0 (m_Re_fail l D9 cB cI cJ cG a O _ _ (nI 5) _) g_267 g_4 g_264 g_266 gs_Re_fail ⟨by decide +kernel, by decide +kernel, show Option.map (fun d => d.parameters.length) (parseMethodDescriptor y_Re_fail.desc) = some 2 by decide +kernel⟩ ⟨by decide, by decide⟩ rfl rfl hP hD hS hA rfl ww_17 hl.1 (Nat.le_of_ble_eq_true rfl) rfl d_Re_takeDataWithNames_136 ⟨by decide, by decide⟩ (fun v9 w9 H locs hq hP hD hS => ?_)
                          obtain ⟨I88, F89, hw9, q90⟩ := hq
                          subst hw9
                          obtain ⟨rfl, sI88, zI88, rfl⟩ := q90
                          exact hret _ _ _ _ _ _ _ hS hP hD d_Re_takeDataWithNames_139 (nr_z (Or.inl rfl)) (Or.inr ⟨by rw [rdN_2 hsh hr1 hk hr2]; unfold rdF; rw [if_pos (by first | exact Or.inl ⟨by omega, hsh9⟩ | exact Or.inr (by omega))], rfl, (sm_tr (sm_tr (sm_tr (sm_tr (sm_mo sfa (by decide)) (sm_mo sI54 (by decide))) (sm_mo sn1 (by decide))) (sm_mo sn2 (by decide))) (sm_mo sI88 (by decide))), (by rw [zI88]; decide), (sm_tr (sm_tr (sm_mo tFa (by decide)) (sm_mo sG1 (by decide))) (sm_mo sG2 (by decide))), BR_pre (BR_pre (BR_pre (wB2)))⟩)
                        · exact absurd c87 (by decide)
                  · exact absurd c65 (by decide)
                · exact absurd c64 (by decide)
              · refine lv_if_ne (tgt := 88) hx hb d_Re_takeDataWithNames_83 (by decide) (fun c91 => ?_) (fun c91 => ?_)
                · exact absurd c91 (by decide)
                · refine lv_iconst (v := 0) hx hb d_Re_takeDataWithNames_86 (by decide) ?_
                  refine lv_topq (y := nI 0) (rfl) ?_
                  exact hret _ _ _ _ _ _ _ hS hP hD d_Re_takeDataWithNames_87 (nr_z (Or.inl rfl)) (Or.inr ⟨rdN_n2 hsh hr1 hk hr2, rfl, (sm_tr (sm_tr (sm_tr (sm_mo sfa (by decide)) (sm_mo sI54 (by decide))) (sm_mo sn1 (by decide))) (sm_mo sn2 (by decide))), z32, (sm_tr (sm_tr (sm_mo tFa (by decide)) (sm_mo sG1 (by decide))) (sm_mo sG2 (by decide))), BR_pre (BR_pre wB2)⟩)
          · exact absurd c59 (by decide)
        · refine lv_if_ne (tgt := 88) hx hb d_Re_takeDataWithNames_83 (by decide) (fun c92 => ?_) (fun c92 => ?_)
          · exact absurd c92 (by decide)
          · refine lv_iconst (v := 0) hx hb d_Re_takeDataWithNames_86 (by decide) ?_
            refine lv_topq (y := nI 0) (rfl) ?_
            exact hret _ _ _ _ _ _ _ hS hP hD d_Re_takeDataWithNames_87 (nr_z (Or.inl rfl)) (Or.inr ⟨rdN_n1 hsh hr1, rfl, (sm_tr (sm_tr (sm_mo sfa (by decide)) (sm_mo sI54 (by decide))) (sm_mo sn1 (by decide))), z31, (sm_tr (sm_mo tFa (by decide)) (sm_mo sG1 (by decide))), BR_pre wB1⟩)
    · have c50 : ¬ (fr + (k_bf ty) ≤ to) := fun z9 => c50 ((nI_leI (a := fr + (k_bf ty)) (b := to) (by omega) (by omega)).mpr z9)
      refine lv_aload_n hx hb d_Re_takeDataWithNames_32 rfl (lv_at hl 4 rfl) ?_
      refine lv_iconst (v := 5) hx hb d_Re_takeDataWithNames_33 (by decide) ?_
      refine lv_topq (y := nI 5) (rfl) ?_
      refine lv_iload_n hx hb d_Re_takeDataWithNames_34 rfl (lv_at hl 6 rfl) ?_
      refine mw_cV (ci := 4) (k := 17) C0 (m_Re_fail l D9 cB cI cJ cG a O _ _ (nI 5) _) g_267 g_4 g_264 g_266 gs_Re_fail ⟨by decide +kernel, by decide +kernel, show Option.map (fun d => d.parameters.length) (parseMethodDescriptor y_Re_fail.desc) = some 2 by decide +kernel⟩ ⟨by decide, by decide⟩ rfl rfl hP hD hS hA rfl ww_17 hl.1 (Nat.le_of_ble_eq_true rfl) rfl d_Re_takeDataWithNames_35 ⟨by decide, by decide⟩ (fun v9 w9 H locs hq hP hD hS => ?_)
      obtain ⟨I93, F94, hw9, q95⟩ := hq
      subst hw9
      obtain ⟨rfl, sI93, zI93, rfl⟩ := q95
      exact hret _ _ _ _ _ _ _ hS hP hD d_Re_takeDataWithNames_38 (nr_z (Or.inl rfl)) (Or.inr ⟨rdN_short (by omega), rfl, (sm_mo sI93 (by decide)), (by rw [zI93]; decide), sm_rf, hBL⟩)
set_option maxHeartbeats 4000000 in
set_option maxRecDepth 100000 in
/-- Reader.takeData -/
theorem m_Re_takeData (l : Launch) (D9 : va_G) (cB cI cJ cG : ClassId) (a : Nat → Nat) (O : Nat → Int64) (I : Nat → Int32) (F : Nat → Nat → Int32) (t : List Nat) (hT2 : I 2 = nI t.length) (htl : t.length ≤ 65536) (hT : BR 0 65536 (F 2) t) (L : List Nat) (ty fr to fw : Nat) (hL3 : I 3 = nI L.length) (hLb : L.length < 300000) (hBL : BR 0 65536 (F 4) L) (hty : ty < 65536) (hfr : fr ≤ to) (hto : to ≤ t.length) (hfw : I 7 = nI fw) (hfb : fw < 100000000) (ol : Nat) (hol : I 8 = nI ol) (hob : ol < 1000000) : MC l D9 cB cI cJ cG a O y_Re_takeData b_Re_takeData 4 (some .boolean) 5 [.ref (a 17), .int (nI ty), .int (nI fr), .int (nI to)] I F (fun v I' F' => (∃ d c, rdD t ty fr to ol = some (d, c) ∧ v = some (.int (nI 1)) ∧ sm [3, 6, 7, 9] I I' ∧ I' 3 = nI (L ++ d).length ∧ I' 7 = nI (fw + c) ∧ sm [4] F F' ∧ BR 0 65536 (F' 4) (L ++ d)) ∨ (rdD t ty fr to ol = none ∧ v = some (.int (nI 0)) ∧ sm [3, 4, 5, 6, 7, 9] I I' ∧ ¬ I' 4 = 0 ∧ sm [4] F F' ∧ BR 0 65536 (F' 4) L)) := by
  refine mc_of (by decide) (Nat.le_of_ble_eq_true rfl) ?_
  intro p e s m below meth c ls A0 Q C0 hP hD hA hS hl hret
  obtain ⟨hx, hb, hml, hr, hlocks, hown, hts, hK⟩ := id C0
  have hl : lv_has ls 4 [(0, .ref (a 17)), (1, .int (nI ty)), (2, .int (nI fr)), (3, .int (nI to))] := hl
  have knm := k_nm_lt ty
  refine lv_aload_n hx hb d_Re_takeData_0 rfl (lv_at hl 0 rfl) ?_
  refine lv_iload_n hx hb d_Re_takeData_1 rfl (lv_at hl 2 rfl) ?_
  refine va_put (D := D9) (ty := .int) (ci := 4) (C := R_Re) (T := F_Re) (N := 8) hx hb hts i_Re t_Re t_Re_ok n_Re hown hK hP hD hS 17 ww_17 rfl 7 (by decide) (hts _ g_130) (fun _ h9 => h9) rfl (by decide +kernel) rfl rfl (Nat.le_of_ble_eq_true rfl) d_Re_takeData_2 (fun H locs hP hD hS => ?_)
  obtain ⟨I1, aI1, sI1, hP, hD⟩ := fx (P := fun z => va_P D9 cls9 (WW a cB cI cJ cG z _ O) H ∧ va_D A0 (WW a cB cI cJ cG z _ O)) ⟨wp_9 hP, wd_9 hD⟩
  refine lv_iload_n hx hb d_Re_takeData_5 rfl (lv_at hl 1 rfl) ?_
  refine mw_cSN C0 (m_Ki_namesIn l D9 cB cI cJ cG a O _ _ ty hty) g_330 g_16 g_328 g_329 ⟨by decide +kernel, by decide +kernel, show Option.map (fun d => d.parameters.length) (parseMethodDescriptor y_Ki_namesIn.desc) = some 1 by decide +kernel⟩ ⟨by decide, by decide⟩ rfl rfl hP hD hS hA hl.1 (Nat.le_of_ble_eq_true rfl) rfl d_Re_takeData_6 ⟨by decide, by decide⟩ (fun v9 w9 H locs hq hP hD hS => ?_)
  obtain ⟨I2, F3, hw9, q4⟩ := hq
  subst hw9
  obtain ⟨rfl, rfl, rfl⟩ := q4
  refine lv_if_le (tgt := 20) hx hb d_Re_takeData_9 (by decide) (fun c5 => ?_) (fun c5 => ?_)
  · have c5 : k_nm ty ≤ 0 := (nI_leI (a := k_nm ty) (b := 0) (by omega) (by omega)).mp c5
    refine lv_aload_n hx hb d_Re_takeData_20 rfl (lv_at hl 0 rfl) ?_
    refine lv_iload_n hx hb d_Re_takeData_21 rfl (lv_at hl 1 rfl) ?_
    refine lv_iload_n hx hb d_Re_takeData_22 rfl (lv_at hl 2 rfl) ?_
    refine lv_iload_n hx hb d_Re_takeData_23 rfl (lv_at hl 3 rfl) ?_
    refine mw_cV (ci := 4) (k := 17) C0 (m_Re_isAsItsType l D9 cB cI cJ cG a O _ _ t ((sI1 2 (by decide)).trans hT2) htl hT ty fr to ol hty hfr hto ((sI1 8 (by decide)).trans hol) hob) g_348 g_4 g_345 g_347 gs_Re_isAsItsType ⟨by decide +kernel, by decide +kernel, show Option.map (fun d => d.parameters.length) (parseMethodDescriptor y_Re_isAsItsType.desc) = some 3 by decide +kernel⟩ ⟨by decide, by decide⟩ rfl rfl hP hD hS hA rfl ww_17 hl.1 (Nat.le_of_ble_eq_true rfl) rfl d_Re_takeData_24 ⟨by decide, by decide⟩ (fun v9 w9 H locs hq hP hD hS => ?_)
    obtain ⟨I6, F7, hw9, q8⟩ := hq
    subst hw9
    obtain ⟨rfl, rfl, rfl⟩ := q8
    refine lv_if_ne (tgt := 37) hx hb d_Re_takeData_27 (by decide) (fun c9 => ?_) (fun c9 => ?_)
    · have c9 : asT t ty fr to ol = true := bI_t c9
      refine lv_aload_n hx hb d_Re_takeData_37 rfl (lv_at hl 0 rfl) ?_
      refine va_get (D := D9) (ci := 4) (C := R_Re) (T := F_Re) (N := 8) hx hb hts i_Re hown hK hP 17 ww_17 rfl 1 (by decide) (hts _ g_121) (fun _ h9 => h9) rfl d_Re_takeData_38 ?_
      refine va_getN (D := D9) (ci := 2) (C := R_Ga) (T := F_Ga) (N := 11) hx hb hts i_Ga hown hK hP 19 ww_19 rfl 0 (by decide) (hts _ g_60) (fun _ h9 => h9) rfl d_Re_takeData_41 ?_
      refine lv_aload_n hx hb d_Re_takeData_44 rfl (lv_at hl 0 rfl) ?_
      refine va_get (D := D9) (ci := 4) (C := R_Re) (T := F_Re) (N := 8) hx hb hts i_Re hown hK hP 17 ww_17 rfl 0 (by decide) (hts _ g_120) (fun _ h9 => h9) rfl d_Re_takeData_45 ?_
      refine lv_iload_n hx hb d_Re_takeData_48 rfl (lv_at hl 2 rfl) ?_
      refine lv_iload_n hx hb d_Re_takeData_49 rfl (lv_at hl 3 rfl) ?_
      refine lv_iload_n hx hb d_Re_takeData_50 rfl (lv_at hl 2 rfl) ?_
      refine lv_isub hx hb d_Re_takeData_51 ?_
      refine lv_topq (y := nI (to - fr)) (pk_sub (by omega)) ?_
      refine mw_cVN (ci := 0) (k := 3) C0 (m_By_putFrom_gb_tp l D9 cB cI cJ cG a O _ _ L t 0 fr (to - fr) hBL hT ((sI1 3 (by decide)).trans hL3) htl (by omega) (by omega)) g_300 g_2 g_297 g_299 gs_By_putFrom ⟨by decide +kernel, by decide +kernel, show Option.map (fun d => d.parameters.length) (parseMethodDescriptor y_By_putFrom.desc) = some 3 by decide +kernel⟩ ⟨by decide, by decide⟩ rfl rfl hP hD hS hA rfl ww_3 hl.1 (Nat.le_of_ble_eq_true rfl) rfl d_Re_takeData_52 ⟨by decide, by decide⟩ (fun v9 w9 H locs hq hP hD hS => ?_)
      obtain ⟨I10, F11, hw9, q12⟩ := hq
      subst hw9
      obtain ⟨rfl, sfa, y3a, tFa, vBa⟩ := q12
      have hlma : (L ++ sl9 t fr (to - fr)).length = L.length + (to - fr) := by rw [List.length_append, sl9_len (by omega)]
      rw [← hlma] at y3a
      refine lv_iconst (v := 1) hx hb d_Re_takeData_55 (by decide) ?_
      refine lv_topq (y := nI 1) (rfl) ?_
      exact hret _ _ _ _ _ _ _ hS hP hD d_Re_takeData_56 (nr_z (Or.inr rfl)) (Or.inl ⟨_, 0, by unfold rdD; rw [if_neg (by omega), if_pos c9], rfl, (sm_tr (sm_mo sI1 (by decide)) (sm_mo sfa (by decide))), y3a, ((sfa 7 (by decide)).trans ((sI1 7 (by decide)).trans hfw)), (sm_mo tFa (by decide)), vBa⟩)
    · have c9 : asT t ty fr to ol = false := bI_f c9
      refine lv_aload_n hx hb d_Re_takeData_30 rfl (lv_at hl 0 rfl) ?_
      refine lv_iconst (v := 5) hx hb d_Re_takeData_31 (by decide) ?_
      refine lv_topq (y := nI 5) (rfl) ?_
      refine lv_iload_n hx hb d_Re_takeData_32 rfl (lv_at hl 2 rfl) ?_
      refine mw_cV (ci := 4) (k := 17) C0 (m_Re_fail l D9 cB cI cJ cG a O _ _ (nI 5) _) g_267 g_4 g_264 g_266 gs_Re_fail ⟨by decide +kernel, by decide +kernel, show Option.map (fun d => d.parameters.length) (parseMethodDescriptor y_Re_fail.desc) = some 2 by decide +kernel⟩ ⟨by decide, by decide⟩ rfl rfl hP hD hS hA rfl ww_17 hl.1 (Nat.le_of_ble_eq_true rfl) rfl d_Re_takeData_33 ⟨by decide, by decide⟩ (fun v9 w9 H locs hq hP hD hS => ?_)
      obtain ⟨I13, F14, hw9, q15⟩ := hq
      subst hw9
      obtain ⟨rfl, sI13, zI13, rfl⟩ := q15
      exact hret _ _ _ _ _ _ _ hS hP hD d_Re_takeData_36 (nr_z (Or.inl rfl)) (Or.inr ⟨by unfold rdD; rw [if_neg (by omega), if_neg (by rw [c9]; decide)], rfl, (sm_tr (sm_mo sI1 (by decide)) (sm_mo sI13 (by decide))), (by rw [zI13]; decide), sm_rf, hBL⟩)
  · have c5 : ¬ (k_nm ty ≤ 0) := fun z9 => c5 ((nI_leI (a := k_nm ty) (b := 0) (by omega) (by omega)).mpr z9)
    refine lv_aload_n hx hb d_Re_takeData_12 rfl (lv_at hl 0 rfl) ?_
    refine lv_iload_n hx hb d_Re_takeData_13 rfl (lv_at hl 1 rfl) ?_
    refine lv_iload_n hx hb d_Re_takeData_14 rfl (lv_at hl 2 rfl) ?_
    refine lv_iload_n hx hb d_Re_takeData_15 rfl (lv_at hl 3 rfl) ?_
    refine mw_cV (ci := 4) (k := 17) C0 (m_Re_takeDataWithNames l D9 cB cI cJ cG a O _ _ t ((sI1 2 (by decide)).trans hT2) htl hT L ty fr to fw ((sI1 3 (by decide)).trans hL3) (by omega) hBL hty hfr hto ((sI1 7 (by decide)).trans hfw) hfb (by omega)) g_334 g_4 g_331 g_333 gs_Re_takeDataWithNames ⟨by decide +kernel, by decide +kernel, show Option.map (fun d => d.parameters.length) (parseMethodDescriptor y_Re_takeDataWithNames.desc) = some 3 by decide +kernel⟩ ⟨by decide, by decide⟩ rfl rfl hP hD hS hA rfl ww_17 hl.1 (Nat.le_of_ble_eq_true rfl) rfl d_Re_takeData_16 ⟨by decide, by decide⟩ (fun v9 w9 H locs hq hP hD hS => ?_)
    obtain ⟨I16, F17, hw9, q18⟩ := hq
    subst hw9
    rcases q18 with ⟨d9, c8, hr9, rfl, sd1, zd3, zd7, sdF, wd9⟩ | ⟨hr9, rfl, sd1, zd4, sdF, wd9⟩
    · exact hret _ _ _ _ _ _ _ hS hP hD d_Re_takeData_19 (nr_z (Or.inr rfl)) (Or.inl ⟨d9, c8, by unfold rdD; rw [if_pos (by omega)]; exact hr9, rfl, (sm_tr (sm_mo sI1 (by decide)) (sm_mo sd1 (by decide))), zd3, zd7, (sm_mo sdF (by decide)), wd9⟩)
    · exact hret _ _ _ _ _ _ _ hS hP hD d_Re_takeData_19 (nr_z (Or.inl rfl)) (Or.inr ⟨by unfold rdD; rw [if_pos (by omega)]; exact hr9, rfl, (sm_tr (sm_mo sI1 (by decide)) (sm_mo sd1 (by decide))), zd4, (sm_mo sdF (by decide)), wd9⟩)
end
section
/-! THE PARTS OF A MESSAGE ON THE TAPE -/
def okB (es : List En9) (x : En9) : Bool := hp (eS x) es && decide ((fl es).length + ((eN x).length + (eD x).length) ≤ 65536)
theorem okB_iff {es : List En9} {x : En9} (h : okE es) (hs : eS x < 4) (ht : eT x < 65536) (hk : eK x < 65536) : okE (es ++ [x]) ↔ okB es x = true := by
  rw [okE_add h hs ht hk]; unfold okB; simp [List.length_append]
def qN (t : List Nat) : Option (List Nat) := match rn 16639 t t.length 0 0 0 none with
  | none => none
  | some (nm, e, c) => if e = t.length ∧ c = 0 then some nm else none
def qD (t : List Nat) (ty : Nat) : Option (List Nat × List Nat) := match rn 16639 t t.length 0 0 0 none with
  | none => none
  | some (nm, e, c) => match rdD t ty e t.length nm.length with
    | none => none
    | some (d, c2) => if c + c2 = 0 then some (nm, d) else none
def rdQ (t : List Nat) (pos : Nat) : Option (En9 × Nat × Nat) := match rn 16639 t t.length pos pos 0 none with
  | none => none
  | some (nm, e, c) => if t.length < e + 4 then none else some ((0, t2 t e, t2 t (e + 2), nI 0, nm, []), e + 4, c)
def rdR (t : List Nat) (s pos : Nat) : Option (En9 × Nat × Nat) := match rn 16639 t t.length pos pos 0 none with
  | none => none
  | some (nm, e, c) => if t.length < e + 10 then none else if t.length < e + 10 + t2 t (e + 8) then none else
    match rdD t (t2 t e) (e + 10) (e + 10 + t2 t (e + 8)) nm.length with
    | none => none
    | some (d, c2) => some ((s, t2 t e, t2 t (e + 2), i4 t (e + 4), nm, d), e + 10 + t2 t (e + 8), c + c2)
def rdE (t : List Nat) (s pos : Nat) : Option (En9 × Nat × Nat) := if s = 0 then rdQ t pos else rdR t s pos
def rdL (t : List Nat) (s : Nat) : Nat → List En9 → Nat → Nat → Option (List En9 × Nat × Nat)
  | 0, es, pos, c => some (es, pos, c)
  | k + 1, es, pos, c => match rdE t s pos with
    | none => none
    | some (x, e, c1) => if okB es x = true then rdL t s k (es ++ [x]) e (c + c1) else none
def rdS (t : List Nat) : Nat → List En9 → Nat → Nat → Option (List En9 × Nat × Nat)
  | 0, es, pos, c => some (es, pos, c)
  | k + 1, es, pos, c => (rdL t (3 - k) (t2 t (4 + 2 * (3 - k))) es pos c).bind (fun r => rdS t k r.1 r.2.1 r.2.2)
def rdX (t : List Nat) (r : List En9 × Nat × Nat) : Option (List En9 × Nat) := if r.2.1 = t.length then some (r.1, r.2.2) else none
/-- the whole message: its parts, and how many pointers -/
def rdM (t : List Nat) : Option (List En9 × Nat) := if t.length < 12 then none else (rdS t 4 [] 12 0).bind (rdX t)
theorem t2_lt {f : Nat → Int32} {t : List Nat} (h : BR 0 65536 f t) (hn : t.length ≤ 65536) {i : Nat} (hi : i + 1 < t.length) : t2 t i < 65536 := by
  have h1 := BR_lt h (show i < t.length by omega) (Nat.zero_le _) (by omega)
  have h2 := BR_lt h hi (Nat.zero_le _) (by omega)
  unfold t2; omega
theorem rdF_c {t : List Nat} {ty to : Nat} {l d : List Nat} {e c c' : Nat} (h : rdF t ty to l e c = some (d, c')) : c' = c := by
  unfold rdF at h
  split at h
  · cases h
  · simp only [Option.some.injEq, Prod.mk.injEq] at h; exact h.2.symm
theorem rdD_c {t : List Nat} {ty fr to ol : Nat} {d : List Nat} {c : Nat} (h : rdD t ty fr to ol = some (d, c)) : c ≤ 40000 := by
  unfold rdD at h
  split at h
  · unfold rdN at h
    split at h
    · cases h
    · split at h
      · cases h
      · rename_i h1
        have b1 := rn_bd h1 (by decide)
        split at h
        · have := rdF_c h; omega
        · split at h
          · cases h
          · rename_i h2
            have b2 := rn_bd h2 (by decide)
            have := rdF_c h; omega
  · split at h
    · simp only [Option.some.injEq, Prod.mk.injEq] at h; omega
    · cases h
theorem rdE_bd {f : Nat → Int32} {t : List Nat} (hT : BR 0 65536 f t) (hn : t.length ≤ 65536) {s pos e c : Nat} {x : En9} (h : rdE t s pos = some (x, e, c)) : e ≤ t.length ∧ c ≤ 60000 ∧ eS x = s ∧ eT x < 65536 ∧ eK x < 65536 := by
  unfold rdE at h
  split at h
  · rename_i hs
    unfold rdQ at h
    split at h
    · cases h
    · rename_i h1
      have b1 := rn_bd h1 (by decide)
      split at h
      · cases h
      · simp only [Option.some.injEq, Prod.mk.injEq] at h
        obtain ⟨rfl, rfl, rfl⟩ := h
        exact ⟨by omega, by omega, hs.symm, t2_lt hT hn (by omega), t2_lt hT hn (by omega)⟩
  · unfold rdR at h
    split at h
    · cases h
    · rename_i h1
      have b1 := rn_bd h1 (by decide)
      split at h
      · cases h
      · split at h
        · cases h
        · split at h
          · cases h
          · rename_i h2
            have b2 := rdD_c h2
            simp only [Option.some.injEq, Prod.mk.injEq] at h
            obtain ⟨rfl, rfl, rfl⟩ := h
            exact ⟨by omega, by omega, rfl, t2_lt hT hn (by omega), t2_lt hT hn (by omega)⟩
theorem GaR_fit {F : Nat → Nat → Int32} {es : List En9} (h : GaR F es) : sb_Fit (F 4) := h.2.2.1
theorem GaR_sm {F F' : Nat → Nat → Int32} {es : List En9} (h : GaR F es) {M : List Nat} (hs : sm M F F') (hM : 5 ∉ M ∧ 6 ∉ M ∧ 7 ∉ M ∧ 8 ∉ M ∧ 9 ∉ M ∧ 10 ∉ M ∧ 12 ∉ M ∧ 13 ∉ M ∧ 14 ∉ M ∧ 15 ∉ M ∧ 16 ∉ M) (hB : BR 0 65536 (F' 4) (fl es)) (hO : okE es) : GaR F' es := by
  obtain ⟨m5, m6, m7, m8, m9, m10, m12, m13, m14, m15, m16⟩ := hM
  refine ⟨?_, ?_, hB⟩
  · intro r e hr
    obtain ⟨a1, a2, a3, a4, a5, a6, a7⟩ := h.1 r e hr
    rw [hs 5 m5, hs 6 m6, hs 7 m7, hs 8 m8, hs 9 m9, hs 10 m10]
    refine ⟨a1, a2, a3, a4, a5, a6, ?_⟩
    have h4 := (hO.2.2.2 e (List.mem_of_getElem? hr)).1
    rw [show F' (12 + eS e) = F (12 + eS e) from hs _ (by rcases lt4 h4 with z | z | z | z <;> rw [z] <;> assumption)]
    exact a7
  · intro s hs4
    rw [hs 16 m16]; exact h.2.1 s hs4
theorem g_272 : (Cond.methodLink "WireMessages$Reader" (62 : Nat) ({ cls := "WireMessages$Reader", name := "takeOwner", desc := "(I)Z" } : MethodName)) ∈ GT := gt_mem 272 (by decide +kernel) rfl
theorem g_274 : (Cond.instanceMethod ({ cls := "WireMessages$Reader", name := "takeOwner", desc := "(I)Z" } : MethodName)) ∈ GT := gt_mem 274 (by decide +kernel) rfl
theorem g_275 : (Cond.code ({ cls := "WireMessages$Reader", name := "takeOwner", desc := "(I)Z" } : MethodName) prog_7_method_9_code (4 : Nat) (Option.some FieldType.boolean)) ∈ GT := gt_mem 275 (by decide +kernel) rfl
theorem g_307 : (Cond.methodLinkNest "WireMessages$Reader" (68 : Nat) ({ cls := "WireMessages$Gathered", name := "keep", desc := "(IIIIII)Z" } : MethodName) "WireMessages") ∈ GT := gt_mem 307 (by decide +kernel) rfl
theorem g_309 : (Cond.instanceMethod ({ cls := "WireMessages$Gathered", name := "keep", desc := "(IIIIII)Z" } : MethodName)) ∈ GT := gt_mem 309 (by decide +kernel) rfl
theorem g_310 : (Cond.code ({ cls := "WireMessages$Gathered", name := "keep", desc := "(IIIIII)Z" } : MethodName) prog_4_method_5_code (8 : Nat) (Option.some FieldType.boolean)) ∈ GT := gt_mem 310 (by decide +kernel) rfl
theorem g_324 : (Cond.methodLink "WireMessages$Reader" (72 : Nat) ({ cls := "WireMessages$Reader", name := "takeData", desc := "(III)Z" } : MethodName)) ∈ GT := gt_mem 324 (by decide +kernel) rfl
theorem g_326 : (Cond.instanceMethod ({ cls := "WireMessages$Reader", name := "takeData", desc := "(III)Z" } : MethodName)) ∈ GT := gt_mem 326 (by decide +kernel) rfl
theorem g_327 : (Cond.code ({ cls := "WireMessages$Reader", name := "takeData", desc := "(III)Z" } : MethodName) prog_7_method_13_code (4 : Nat) (Option.some FieldType.boolean)) ∈ GT := gt_mem 327 (by decide +kernel) rfl
theorem g_356 : (Cond.methodLinkNest "WireMessages$Reader" (76 : Nat) ({ cls := "WireMessages$Bytes", name := "fourAt", desc := "(I)I" } : MethodName) "WireMessages") ∈ GT := gt_mem 356 (by decide +kernel) rfl
theorem g_358 : (Cond.instanceMethod ({ cls := "WireMessages$Bytes", name := "fourAt", desc := "(I)I" } : MethodName)) ∈ GT := gt_mem 358 (by decide +kernel) rfl
theorem g_359 : (Cond.code ({ cls := "WireMessages$Bytes", name := "fourAt", desc := "(I)I" } : MethodName) prog_2_method_4_code (2 : Nat) (Option.some FieldType.int)) ∈ GT := gt_mem 359 (by decide +kernel) rfl
theorem g_492 : (Cond.methodLink "WireMessages$Reader" (79 : Nat) ({ cls := "WireMessages$Reader", name := "takeBackTo", desc := "(I)Z" } : MethodName)) ∈ GT := gt_mem 492 (by decide +kernel) rfl
theorem g_494 : (Cond.instanceMethod ({ cls := "WireMessages$Reader", name := "takeBackTo", desc := "(I)Z" } : MethodName)) ∈ GT := gt_mem 494 (by decide +kernel) rfl
theorem g_495 : (Cond.code ({ cls := "WireMessages$Reader", name := "takeBackTo", desc := "(I)Z" } : MethodName) prog_7_method_8_code (2 : Nat) (Option.some FieldType.boolean)) ∈ GT := gt_mem 495 (by decide +kernel) rfl
theorem gs_Re_takeOwner : Cond.selects R_Re y_Re_takeOwner y_Re_takeOwner ∈ GT := gt_sel (q := (⟨"WireMessages$Reader", "takeOwner", "(I)Z"⟩, 8)) (by decide +kernel)
theorem gs_Re_takeBackTo : Cond.selects R_Re y_Re_takeBackTo y_Re_takeBackTo ∈ GT := gt_sel (q := (⟨"WireMessages$Reader", "takeBackTo", "(I)Z"⟩, 8)) (by decide +kernel)
theorem gs_Re_takeData : Cond.selects R_Re y_Re_takeData y_Re_takeData ∈ GT := gt_sel (q := (⟨"WireMessages$Reader", "takeData", "(III)Z"⟩, 8)) (by decide +kernel)
theorem gs_Ga_keep : Cond.selects R_Ga y_Ga_keep y_Ga_keep ∈ GT := gt_sel (q := (⟨"WireMessages$Gathered", "keep", "(IIIIII)Z"⟩, 11)) (by decide +kernel)
theorem gs_By_fourAt : Cond.selects R_By y_By_fourAt y_By_fourAt ∈ GT := gt_sel (q := (⟨"WireMessages$Bytes", "fourAt", "(I)I"⟩, 2)) (by decide +kernel)
theorem d_Re_takeQuestion_0 : decode b_Re_takeQuestion 0 = .ok (.aload_n 0, 1) := by decide +kernel
theorem d_Re_takeQuestion_1 : decode b_Re_takeQuestion 1 = .ok (.getfield 41, 3) := by decide +kernel
theorem d_Re_takeQuestion_4 : decode b_Re_takeQuestion 4 = .ok (.istore_n 1, 1) := by decide +kernel
theorem d_Re_takeQuestion_5 : decode b_Re_takeQuestion 5 = .ok (.aload_n 0, 1) := by decide +kernel
theorem d_Re_takeQuestion_6 : decode b_Re_takeQuestion 6 = .ok (.getfield 15, 3) := by decide +kernel
theorem d_Re_takeQuestion_9 : decode b_Re_takeQuestion 9 = .ok (.getfield 59, 3) := by decide +kernel
theorem d_Re_takeQuestion_12 : decode b_Re_takeQuestion 12 = .ok (.getfield 44, 3) := by decide +kernel
theorem d_Re_takeQuestion_15 : decode b_Re_takeQuestion 15 = .ok (.istore_n 2, 1) := by decide +kernel
theorem d_Re_takeQuestion_16 : decode b_Re_takeQuestion 16 = .ok (.aload_n 0, 1) := by decide +kernel
theorem d_Re_takeQuestion_17 : decode b_Re_takeQuestion 17 = .ok (.iload_n 1, 1) := by decide +kernel
theorem d_Re_takeQuestion_18 : decode b_Re_takeQuestion 18 = .ok (.invokevirtual 62, 3) := by decide +kernel
theorem d_Re_takeQuestion_21 : decode b_Re_takeQuestion 21 = .ok (.ifCond .ne 5, 3) := by decide +kernel
theorem d_Re_takeQuestion_24 : decode b_Re_takeQuestion 24 = .ok (.iconst 0, 1) := by decide +kernel
theorem d_Re_takeQuestion_25 : decode b_Re_takeQuestion 25 = .ok (.ireturn, 1) := by decide +kernel
theorem d_Re_takeQuestion_26 : decode b_Re_takeQuestion 26 = .ok (.aload_n 0, 1) := by decide +kernel
theorem d_Re_takeQuestion_27 : decode b_Re_takeQuestion 27 = .ok (.getfield 41, 3) := by decide +kernel
theorem d_Re_takeQuestion_30 : decode b_Re_takeQuestion 30 = .ok (.istore_n 3, 1) := by decide +kernel
theorem d_Re_takeQuestion_31 : decode b_Re_takeQuestion 31 = .ok (.iload_n 3, 1) := by decide +kernel
theorem d_Re_takeQuestion_32 : decode b_Re_takeQuestion 32 = .ok (.iconst 4, 1) := by decide +kernel
theorem d_Re_takeQuestion_33 : decode b_Re_takeQuestion 33 = .ok (.iadd, 1) := by decide +kernel
theorem d_Re_takeQuestion_34 : decode b_Re_takeQuestion 34 = .ok (.aload_n 0, 1) := by decide +kernel
theorem d_Re_takeQuestion_35 : decode b_Re_takeQuestion 35 = .ok (.getfield 9, 3) := by decide +kernel
theorem d_Re_takeQuestion_38 : decode b_Re_takeQuestion 38 = .ok (.getfield 44, 3) := by decide +kernel
theorem d_Re_takeQuestion_41 : decode b_Re_takeQuestion 41 = .ok (.if_icmp .le 10, 3) := by decide +kernel
theorem d_Re_takeQuestion_44 : decode b_Re_takeQuestion 44 = .ok (.aload_n 0, 1) := by decide +kernel
theorem d_Re_takeQuestion_45 : decode b_Re_takeQuestion 45 = .ok (.iconst 1, 1) := by decide +kernel
theorem d_Re_takeQuestion_46 : decode b_Re_takeQuestion 46 = .ok (.iload_n 3, 1) := by decide +kernel
theorem d_Re_takeQuestion_47 : decode b_Re_takeQuestion 47 = .ok (.invokevirtual 47, 3) := by decide +kernel
theorem d_Re_takeQuestion_50 : decode b_Re_takeQuestion 50 = .ok (.ireturn, 1) := by decide +kernel
theorem d_Re_takeQuestion_51 : decode b_Re_takeQuestion 51 = .ok (.aload_n 0, 1) := by decide +kernel
theorem d_Re_takeQuestion_52 : decode b_Re_takeQuestion 52 = .ok (.iload_n 3, 1) := by decide +kernel
theorem d_Re_takeQuestion_53 : decode b_Re_takeQuestion 53 = .ok (.iconst 4, 1) := by decide +kernel
theorem d_Re_takeQuestion_54 : decode b_Re_takeQuestion 54 = .ok (.iadd, 1) := by decide +kernel
theorem d_Re_takeQuestion_55 : decode b_Re_takeQuestion 55 = .ok (.putfield 41, 3) := by decide +kernel
theorem d_Re_takeQuestion_58 : decode b_Re_takeQuestion 58 = .ok (.aload_n 0, 1) := by decide +kernel
theorem d_Re_takeQuestion_59 : decode b_Re_takeQuestion 59 = .ok (.getfield 15, 3) := by decide +kernel
theorem d_Re_takeQuestion_62 : decode b_Re_takeQuestion 62 = .ok (.iconst 0, 1) := by decide +kernel
theorem d_Re_takeQuestion_63 : decode b_Re_takeQuestion 63 = .ok (.iload_n 2, 1) := by decide +kernel
theorem d_Re_takeQuestion_64 : decode b_Re_takeQuestion 64 = .ok (.aload_n 0, 1) := by decide +kernel
theorem d_Re_takeQuestion_65 : decode b_Re_takeQuestion 65 = .ok (.getfield 65, 3) := by decide +kernel
theorem d_Re_takeQuestion_68 : decode b_Re_takeQuestion 68 = .ok (.aload_n 0, 1) := by decide +kernel
theorem d_Re_takeQuestion_69 : decode b_Re_takeQuestion 69 = .ok (.getfield 9, 3) := by decide +kernel
theorem d_Re_takeQuestion_72 : decode b_Re_takeQuestion 72 = .ok (.iload_n 3, 1) := by decide +kernel
theorem d_Re_takeQuestion_73 : decode b_Re_takeQuestion 73 = .ok (.invokevirtual 29, 3) := by decide +kernel
theorem d_Re_takeQuestion_76 : decode b_Re_takeQuestion 76 = .ok (.aload_n 0, 1) := by decide +kernel
theorem d_Re_takeQuestion_77 : decode b_Re_takeQuestion 77 = .ok (.getfield 9, 3) := by decide +kernel
theorem d_Re_takeQuestion_80 : decode b_Re_takeQuestion 80 = .ok (.iload_n 3, 1) := by decide +kernel
theorem d_Re_takeQuestion_81 : decode b_Re_takeQuestion 81 = .ok (.iconst 2, 1) := by decide +kernel
theorem d_Re_takeQuestion_82 : decode b_Re_takeQuestion 82 = .ok (.iadd, 1) := by decide +kernel
theorem d_Re_takeQuestion_83 : decode b_Re_takeQuestion 83 = .ok (.invokevirtual 29, 3) := by decide +kernel
theorem d_Re_takeQuestion_86 : decode b_Re_takeQuestion 86 = .ok (.iconst 0, 1) := by decide +kernel
theorem d_Re_takeQuestion_87 : decode b_Re_takeQuestion 87 = .ok (.invokevirtual 68, 3) := by decide +kernel
theorem d_Re_takeQuestion_90 : decode b_Re_takeQuestion 90 = .ok (.istore 4, 2) := by decide +kernel
theorem d_Re_takeQuestion_92 : decode b_Re_takeQuestion 92 = .ok (.iload 4, 2) := by decide +kernel
theorem d_Re_takeQuestion_94 : decode b_Re_takeQuestion 94 = .ok (.ifCond .ne 13, 3) := by decide +kernel
theorem d_Re_takeQuestion_97 : decode b_Re_takeQuestion 97 = .ok (.aload_n 0, 1) := by decide +kernel
theorem d_Re_takeQuestion_98 : decode b_Re_takeQuestion 98 = .ok (.bipush 7, 2) := by decide +kernel
theorem d_Re_takeQuestion_100 : decode b_Re_takeQuestion 100 = .ok (.iload_n 1, 1) := by decide +kernel
theorem d_Re_takeQuestion_101 : decode b_Re_takeQuestion 101 = .ok (.invokevirtual 47, 3) := by decide +kernel
theorem d_Re_takeQuestion_104 : decode b_Re_takeQuestion 104 = .ok (.ifCond .eq 7, 3) := by decide +kernel
theorem d_Re_takeQuestion_107 : decode b_Re_takeQuestion 107 = .ok (.iconst 1, 1) := by decide +kernel
theorem d_Re_takeQuestion_108 : decode b_Re_takeQuestion 108 = .ok (.goto 4, 3) := by decide +kernel
theorem d_Re_takeQuestion_111 : decode b_Re_takeQuestion 111 = .ok (.iconst 0, 1) := by decide +kernel
theorem d_Re_takeQuestion_112 : decode b_Re_takeQuestion 112 = .ok (.ireturn, 1) := by decide +kernel
theorem d_Re_takeRecord_0 : decode b_Re_takeRecord 0 = .ok (.aload_n 0, 1) := by decide +kernel
theorem d_Re_takeRecord_1 : decode b_Re_takeRecord 1 = .ok (.getfield 41, 3) := by decide +kernel
theorem d_Re_takeRecord_4 : decode b_Re_takeRecord 4 = .ok (.istore_n 2, 1) := by decide +kernel
theorem d_Re_takeRecord_5 : decode b_Re_takeRecord 5 = .ok (.aload_n 0, 1) := by decide +kernel
theorem d_Re_takeRecord_6 : decode b_Re_takeRecord 6 = .ok (.getfield 15, 3) := by decide +kernel
theorem d_Re_takeRecord_9 : decode b_Re_takeRecord 9 = .ok (.getfield 59, 3) := by decide +kernel
theorem d_Re_takeRecord_12 : decode b_Re_takeRecord 12 = .ok (.getfield 44, 3) := by decide +kernel
theorem d_Re_takeRecord_15 : decode b_Re_takeRecord 15 = .ok (.istore_n 3, 1) := by decide +kernel
theorem d_Re_takeRecord_16 : decode b_Re_takeRecord 16 = .ok (.aload_n 0, 1) := by decide +kernel
theorem d_Re_takeRecord_17 : decode b_Re_takeRecord 17 = .ok (.iload_n 2, 1) := by decide +kernel
theorem d_Re_takeRecord_18 : decode b_Re_takeRecord 18 = .ok (.invokevirtual 62, 3) := by decide +kernel
theorem d_Re_takeRecord_21 : decode b_Re_takeRecord 21 = .ok (.ifCond .ne 5, 3) := by decide +kernel
theorem d_Re_takeRecord_24 : decode b_Re_takeRecord 24 = .ok (.iconst 0, 1) := by decide +kernel
theorem d_Re_takeRecord_25 : decode b_Re_takeRecord 25 = .ok (.ireturn, 1) := by decide +kernel
theorem d_Re_takeRecord_26 : decode b_Re_takeRecord 26 = .ok (.aload_n 0, 1) := by decide +kernel
theorem d_Re_takeRecord_27 : decode b_Re_takeRecord 27 = .ok (.getfield 41, 3) := by decide +kernel
theorem d_Re_takeRecord_30 : decode b_Re_takeRecord 30 = .ok (.istore 4, 2) := by decide +kernel
theorem d_Re_takeRecord_32 : decode b_Re_takeRecord 32 = .ok (.iload 4, 2) := by decide +kernel
theorem d_Re_takeRecord_34 : decode b_Re_takeRecord 34 = .ok (.bipush 10, 2) := by decide +kernel
theorem d_Re_takeRecord_36 : decode b_Re_takeRecord 36 = .ok (.iadd, 1) := by decide +kernel
theorem d_Re_takeRecord_37 : decode b_Re_takeRecord 37 = .ok (.istore 5, 2) := by decide +kernel
theorem d_Re_takeRecord_39 : decode b_Re_takeRecord 39 = .ok (.iload 5, 2) := by decide +kernel
theorem d_Re_takeRecord_41 : decode b_Re_takeRecord 41 = .ok (.aload_n 0, 1) := by decide +kernel
theorem d_Re_takeRecord_42 : decode b_Re_takeRecord 42 = .ok (.getfield 9, 3) := by decide +kernel
theorem d_Re_takeRecord_45 : decode b_Re_takeRecord 45 = .ok (.getfield 44, 3) := by decide +kernel
theorem d_Re_takeRecord_48 : decode b_Re_takeRecord 48 = .ok (.if_icmp .le 11, 3) := by decide +kernel
theorem d_Re_takeRecord_51 : decode b_Re_takeRecord 51 = .ok (.aload_n 0, 1) := by decide +kernel
theorem d_Re_takeRecord_52 : decode b_Re_takeRecord 52 = .ok (.iconst 1, 1) := by decide +kernel
theorem d_Re_takeRecord_53 : decode b_Re_takeRecord 53 = .ok (.iload 4, 2) := by decide +kernel
theorem d_Re_takeRecord_55 : decode b_Re_takeRecord 55 = .ok (.invokevirtual 47, 3) := by decide +kernel
theorem d_Re_takeRecord_58 : decode b_Re_takeRecord 58 = .ok (.ireturn, 1) := by decide +kernel
theorem d_Re_takeRecord_59 : decode b_Re_takeRecord 59 = .ok (.iload 5, 2) := by decide +kernel
theorem d_Re_takeRecord_61 : decode b_Re_takeRecord 61 = .ok (.aload_n 0, 1) := by decide +kernel
theorem d_Re_takeRecord_62 : decode b_Re_takeRecord 62 = .ok (.getfield 9, 3) := by decide +kernel
theorem d_Re_takeRecord_65 : decode b_Re_takeRecord 65 = .ok (.iload 4, 2) := by decide +kernel
theorem d_Re_takeRecord_67 : decode b_Re_takeRecord 67 = .ok (.bipush 8, 2) := by decide +kernel
theorem d_Re_takeRecord_69 : decode b_Re_takeRecord 69 = .ok (.iadd, 1) := by decide +kernel
theorem d_Re_takeRecord_70 : decode b_Re_takeRecord 70 = .ok (.invokevirtual 29, 3) := by decide +kernel
theorem d_Re_takeRecord_73 : decode b_Re_takeRecord 73 = .ok (.iadd, 1) := by decide +kernel
theorem d_Re_takeRecord_74 : decode b_Re_takeRecord 74 = .ok (.istore 6, 2) := by decide +kernel
theorem d_Re_takeRecord_76 : decode b_Re_takeRecord 76 = .ok (.iload 6, 2) := by decide +kernel
theorem d_Re_takeRecord_78 : decode b_Re_takeRecord 78 = .ok (.aload_n 0, 1) := by decide +kernel
theorem d_Re_takeRecord_79 : decode b_Re_takeRecord 79 = .ok (.getfield 9, 3) := by decide +kernel
theorem d_Re_takeRecord_82 : decode b_Re_takeRecord 82 = .ok (.getfield 44, 3) := by decide +kernel
theorem d_Re_takeRecord_85 : decode b_Re_takeRecord 85 = .ok (.if_icmp .le 11, 3) := by decide +kernel
theorem d_Re_takeRecord_88 : decode b_Re_takeRecord 88 = .ok (.aload_n 0, 1) := by decide +kernel
theorem d_Re_takeRecord_89 : decode b_Re_takeRecord 89 = .ok (.iconst 1, 1) := by decide +kernel
theorem d_Re_takeRecord_90 : decode b_Re_takeRecord 90 = .ok (.iload 5, 2) := by decide +kernel
theorem d_Re_takeRecord_92 : decode b_Re_takeRecord 92 = .ok (.invokevirtual 47, 3) := by decide +kernel
theorem d_Re_takeRecord_95 : decode b_Re_takeRecord 95 = .ok (.ireturn, 1) := by decide +kernel
theorem d_Re_takeRecord_96 : decode b_Re_takeRecord 96 = .ok (.aload_n 0, 1) := by decide +kernel
theorem d_Re_takeRecord_97 : decode b_Re_takeRecord 97 = .ok (.getfield 9, 3) := by decide +kernel
theorem d_Re_takeRecord_100 : decode b_Re_takeRecord 100 = .ok (.iload 4, 2) := by decide +kernel
theorem d_Re_takeRecord_102 : decode b_Re_takeRecord 102 = .ok (.invokevirtual 29, 3) := by decide +kernel
theorem d_Re_takeRecord_105 : decode b_Re_takeRecord 105 = .ok (.istore 7, 2) := by decide +kernel
theorem d_Re_takeRecord_107 : decode b_Re_takeRecord 107 = .ok (.aload_n 0, 1) := by decide +kernel
theorem d_Re_takeRecord_108 : decode b_Re_takeRecord 108 = .ok (.iload 7, 2) := by decide +kernel
theorem d_Re_takeRecord_110 : decode b_Re_takeRecord 110 = .ok (.iload 5, 2) := by decide +kernel
theorem d_Re_takeRecord_112 : decode b_Re_takeRecord 112 = .ok (.iload 6, 2) := by decide +kernel
theorem d_Re_takeRecord_114 : decode b_Re_takeRecord 114 = .ok (.invokevirtual 72, 3) := by decide +kernel
theorem d_Re_takeRecord_117 : decode b_Re_takeRecord 117 = .ok (.ifCond .ne 5, 3) := by decide +kernel
theorem d_Re_takeRecord_120 : decode b_Re_takeRecord 120 = .ok (.iconst 0, 1) := by decide +kernel
theorem d_Re_takeRecord_121 : decode b_Re_takeRecord 121 = .ok (.ireturn, 1) := by decide +kernel
theorem d_Re_takeRecord_122 : decode b_Re_takeRecord 122 = .ok (.aload_n 0, 1) := by decide +kernel
theorem d_Re_takeRecord_123 : decode b_Re_takeRecord 123 = .ok (.iload 6, 2) := by decide +kernel
theorem d_Re_takeRecord_125 : decode b_Re_takeRecord 125 = .ok (.putfield 41, 3) := by decide +kernel
theorem d_Re_takeRecord_128 : decode b_Re_takeRecord 128 = .ok (.aload_n 0, 1) := by decide +kernel
theorem d_Re_takeRecord_129 : decode b_Re_takeRecord 129 = .ok (.getfield 9, 3) := by decide +kernel
theorem d_Re_takeRecord_132 : decode b_Re_takeRecord 132 = .ok (.iload 4, 2) := by decide +kernel
theorem d_Re_takeRecord_134 : decode b_Re_takeRecord 134 = .ok (.iconst 2, 1) := by decide +kernel
theorem d_Re_takeRecord_135 : decode b_Re_takeRecord 135 = .ok (.iadd, 1) := by decide +kernel
theorem d_Re_takeRecord_136 : decode b_Re_takeRecord 136 = .ok (.invokevirtual 29, 3) := by decide +kernel
theorem d_Re_takeRecord_139 : decode b_Re_takeRecord 139 = .ok (.istore 8, 2) := by decide +kernel
theorem d_Re_takeRecord_141 : decode b_Re_takeRecord 141 = .ok (.aload_n 0, 1) := by decide +kernel
theorem d_Re_takeRecord_142 : decode b_Re_takeRecord 142 = .ok (.getfield 15, 3) := by decide +kernel
theorem d_Re_takeRecord_145 : decode b_Re_takeRecord 145 = .ok (.iload_n 1, 1) := by decide +kernel
theorem d_Re_takeRecord_146 : decode b_Re_takeRecord 146 = .ok (.iload_n 3, 1) := by decide +kernel
theorem d_Re_takeRecord_147 : decode b_Re_takeRecord 147 = .ok (.aload_n 0, 1) := by decide +kernel
theorem d_Re_takeRecord_148 : decode b_Re_takeRecord 148 = .ok (.getfield 65, 3) := by decide +kernel
theorem d_Re_takeRecord_151 : decode b_Re_takeRecord 151 = .ok (.iload 7, 2) := by decide +kernel
theorem d_Re_takeRecord_153 : decode b_Re_takeRecord 153 = .ok (.iload 8, 2) := by decide +kernel
theorem d_Re_takeRecord_155 : decode b_Re_takeRecord 155 = .ok (.aload_n 0, 1) := by decide +kernel
theorem d_Re_takeRecord_156 : decode b_Re_takeRecord 156 = .ok (.getfield 9, 3) := by decide +kernel
theorem d_Re_takeRecord_159 : decode b_Re_takeRecord 159 = .ok (.iload 4, 2) := by decide +kernel
theorem d_Re_takeRecord_161 : decode b_Re_takeRecord 161 = .ok (.iconst 4, 1) := by decide +kernel
theorem d_Re_takeRecord_162 : decode b_Re_takeRecord 162 = .ok (.iadd, 1) := by decide +kernel
theorem d_Re_takeRecord_163 : decode b_Re_takeRecord 163 = .ok (.invokevirtual 76, 3) := by decide +kernel
theorem d_Re_takeRecord_166 : decode b_Re_takeRecord 166 = .ok (.invokevirtual 68, 3) := by decide +kernel
theorem d_Re_takeRecord_169 : decode b_Re_takeRecord 169 = .ok (.istore 9, 2) := by decide +kernel
theorem d_Re_takeRecord_171 : decode b_Re_takeRecord 171 = .ok (.iload 9, 2) := by decide +kernel
theorem d_Re_takeRecord_173 : decode b_Re_takeRecord 173 = .ok (.ifCond .ne 13, 3) := by decide +kernel
theorem d_Re_takeRecord_176 : decode b_Re_takeRecord 176 = .ok (.aload_n 0, 1) := by decide +kernel
theorem d_Re_takeRecord_177 : decode b_Re_takeRecord 177 = .ok (.bipush 7, 2) := by decide +kernel
theorem d_Re_takeRecord_179 : decode b_Re_takeRecord 179 = .ok (.iload_n 2, 1) := by decide +kernel
theorem d_Re_takeRecord_180 : decode b_Re_takeRecord 180 = .ok (.invokevirtual 47, 3) := by decide +kernel
theorem d_Re_takeRecord_183 : decode b_Re_takeRecord 183 = .ok (.ifCond .eq 7, 3) := by decide +kernel
theorem d_Re_takeRecord_186 : decode b_Re_takeRecord 186 = .ok (.iconst 1, 1) := by decide +kernel
theorem d_Re_takeRecord_187 : decode b_Re_takeRecord 187 = .ok (.goto 4, 3) := by decide +kernel
theorem d_Re_takeRecord_190 : decode b_Re_takeRecord 190 = .ok (.iconst 0, 1) := by decide +kernel
theorem d_Re_takeRecord_191 : decode b_Re_takeRecord 191 = .ok (.ireturn, 1) := by decide +kernel
theorem d_Re_takeTapeAsName_0 : decode b_Re_takeTapeAsName 0 = .ok (.aload_n 0, 1) := by decide +kernel
theorem d_Re_takeTapeAsName_1 : decode b_Re_takeTapeAsName 1 = .ok (.getfield 15, 3) := by decide +kernel
theorem d_Re_takeTapeAsName_4 : decode b_Re_takeTapeAsName 4 = .ok (.getfield 59, 3) := by decide +kernel
theorem d_Re_takeTapeAsName_7 : decode b_Re_takeTapeAsName 7 = .ok (.getfield 44, 3) := by decide +kernel
theorem d_Re_takeTapeAsName_10 : decode b_Re_takeTapeAsName 10 = .ok (.istore_n 1, 1) := by decide +kernel
theorem d_Re_takeTapeAsName_11 : decode b_Re_takeTapeAsName 11 = .ok (.aload_n 0, 1) := by decide +kernel
theorem d_Re_takeTapeAsName_12 : decode b_Re_takeTapeAsName 12 = .ok (.iconst 0, 1) := by decide +kernel
theorem d_Re_takeTapeAsName_13 : decode b_Re_takeTapeAsName 13 = .ok (.putfield 26, 3) := by decide +kernel
theorem d_Re_takeTapeAsName_16 : decode b_Re_takeTapeAsName 16 = .ok (.aload_n 0, 1) := by decide +kernel
theorem d_Re_takeTapeAsName_17 : decode b_Re_takeTapeAsName 17 = .ok (.iconst 0, 1) := by decide +kernel
theorem d_Re_takeTapeAsName_18 : decode b_Re_takeTapeAsName 18 = .ok (.invokevirtual 62, 3) := by decide +kernel
theorem d_Re_takeTapeAsName_21 : decode b_Re_takeTapeAsName 21 = .ok (.ifCond .eq 28, 3) := by decide +kernel
theorem d_Re_takeTapeAsName_24 : decode b_Re_takeTapeAsName 24 = .ok (.aload_n 0, 1) := by decide +kernel
theorem d_Re_takeTapeAsName_25 : decode b_Re_takeTapeAsName 25 = .ok (.getfield 41, 3) := by decide +kernel
theorem d_Re_takeTapeAsName_28 : decode b_Re_takeTapeAsName 28 = .ok (.aload_n 0, 1) := by decide +kernel
theorem d_Re_takeTapeAsName_29 : decode b_Re_takeTapeAsName 29 = .ok (.getfield 9, 3) := by decide +kernel
theorem d_Re_takeTapeAsName_32 : decode b_Re_takeTapeAsName 32 = .ok (.getfield 44, 3) := by decide +kernel
theorem d_Re_takeTapeAsName_35 : decode b_Re_takeTapeAsName 35 = .ok (.if_icmp .ne 14, 3) := by decide +kernel
theorem d_Re_takeTapeAsName_38 : decode b_Re_takeTapeAsName 38 = .ok (.aload_n 0, 1) := by decide +kernel
theorem d_Re_takeTapeAsName_39 : decode b_Re_takeTapeAsName 39 = .ok (.getfield 26, 3) := by decide +kernel
theorem d_Re_takeTapeAsName_42 : decode b_Re_takeTapeAsName 42 = .ok (.ifCond .ne 7, 3) := by decide +kernel
theorem d_Re_takeTapeAsName_45 : decode b_Re_takeTapeAsName 45 = .ok (.iconst 1, 1) := by decide +kernel
theorem d_Re_takeTapeAsName_46 : decode b_Re_takeTapeAsName 46 = .ok (.goto 4, 3) := by decide +kernel
theorem d_Re_takeTapeAsName_49 : decode b_Re_takeTapeAsName 49 = .ok (.iconst 0, 1) := by decide +kernel
theorem d_Re_takeTapeAsName_50 : decode b_Re_takeTapeAsName 50 = .ok (.istore_n 2, 1) := by decide +kernel
theorem d_Re_takeTapeAsName_51 : decode b_Re_takeTapeAsName 51 = .ok (.iload_n 2, 1) := by decide +kernel
theorem d_Re_takeTapeAsName_52 : decode b_Re_takeTapeAsName 52 = .ok (.ifCond .ne 11, 3) := by decide +kernel
theorem d_Re_takeTapeAsName_55 : decode b_Re_takeTapeAsName 55 = .ok (.aload_n 0, 1) := by decide +kernel
theorem d_Re_takeTapeAsName_56 : decode b_Re_takeTapeAsName 56 = .ok (.iload_n 1, 1) := by decide +kernel
theorem d_Re_takeTapeAsName_57 : decode b_Re_takeTapeAsName 57 = .ok (.invokevirtual 79, 3) := by decide +kernel
theorem d_Re_takeTapeAsName_60 : decode b_Re_takeTapeAsName 60 = .ok (.ifCond .eq 7, 3) := by decide +kernel
theorem d_Re_takeTapeAsName_63 : decode b_Re_takeTapeAsName 63 = .ok (.iconst 1, 1) := by decide +kernel
theorem d_Re_takeTapeAsName_64 : decode b_Re_takeTapeAsName 64 = .ok (.goto 4, 3) := by decide +kernel
theorem d_Re_takeTapeAsName_67 : decode b_Re_takeTapeAsName 67 = .ok (.iconst 0, 1) := by decide +kernel
theorem d_Re_takeTapeAsName_68 : decode b_Re_takeTapeAsName 68 = .ok (.ireturn, 1) := by decide +kernel
theorem d_Re_takeTapeAsNameAndData_0 : decode b_Re_takeTapeAsNameAndData 0 = .ok (.aload_n 0, 1) := by decide +kernel
theorem d_Re_takeTapeAsNameAndData_1 : decode b_Re_takeTapeAsNameAndData 1 = .ok (.getfield 15, 3) := by decide +kernel
theorem d_Re_takeTapeAsNameAndData_4 : decode b_Re_takeTapeAsNameAndData 4 = .ok (.getfield 59, 3) := by decide +kernel
theorem d_Re_takeTapeAsNameAndData_7 : decode b_Re_takeTapeAsNameAndData 7 = .ok (.getfield 44, 3) := by decide +kernel
theorem d_Re_takeTapeAsNameAndData_10 : decode b_Re_takeTapeAsNameAndData 10 = .ok (.istore_n 2, 1) := by decide +kernel
theorem d_Re_takeTapeAsNameAndData_11 : decode b_Re_takeTapeAsNameAndData 11 = .ok (.aload_n 0, 1) := by decide +kernel
theorem d_Re_takeTapeAsNameAndData_12 : decode b_Re_takeTapeAsNameAndData 12 = .ok (.iconst 0, 1) := by decide +kernel
theorem d_Re_takeTapeAsNameAndData_13 : decode b_Re_takeTapeAsNameAndData 13 = .ok (.putfield 26, 3) := by decide +kernel
theorem d_Re_takeTapeAsNameAndData_16 : decode b_Re_takeTapeAsNameAndData 16 = .ok (.aload_n 0, 1) := by decide +kernel
theorem d_Re_takeTapeAsNameAndData_17 : decode b_Re_takeTapeAsNameAndData 17 = .ok (.iconst 0, 1) := by decide +kernel
theorem d_Re_takeTapeAsNameAndData_18 : decode b_Re_takeTapeAsNameAndData 18 = .ok (.invokevirtual 62, 3) := by decide +kernel
theorem d_Re_takeTapeAsNameAndData_21 : decode b_Re_takeTapeAsNameAndData 21 = .ok (.ifCond .eq 33, 3) := by decide +kernel
theorem d_Re_takeTapeAsNameAndData_24 : decode b_Re_takeTapeAsNameAndData 24 = .ok (.aload_n 0, 1) := by decide +kernel
theorem d_Re_takeTapeAsNameAndData_25 : decode b_Re_takeTapeAsNameAndData 25 = .ok (.iload_n 1, 1) := by decide +kernel
theorem d_Re_takeTapeAsNameAndData_26 : decode b_Re_takeTapeAsNameAndData 26 = .ok (.aload_n 0, 1) := by decide +kernel
theorem d_Re_takeTapeAsNameAndData_27 : decode b_Re_takeTapeAsNameAndData 27 = .ok (.getfield 41, 3) := by decide +kernel
theorem d_Re_takeTapeAsNameAndData_30 : decode b_Re_takeTapeAsNameAndData 30 = .ok (.aload_n 0, 1) := by decide +kernel
theorem d_Re_takeTapeAsNameAndData_31 : decode b_Re_takeTapeAsNameAndData 31 = .ok (.getfield 9, 3) := by decide +kernel
theorem d_Re_takeTapeAsNameAndData_34 : decode b_Re_takeTapeAsNameAndData 34 = .ok (.getfield 44, 3) := by decide +kernel
theorem d_Re_takeTapeAsNameAndData_37 : decode b_Re_takeTapeAsNameAndData 37 = .ok (.invokevirtual 72, 3) := by decide +kernel
theorem d_Re_takeTapeAsNameAndData_40 : decode b_Re_takeTapeAsNameAndData 40 = .ok (.ifCond .eq 14, 3) := by decide +kernel
theorem d_Re_takeTapeAsNameAndData_43 : decode b_Re_takeTapeAsNameAndData 43 = .ok (.aload_n 0, 1) := by decide +kernel
theorem d_Re_takeTapeAsNameAndData_44 : decode b_Re_takeTapeAsNameAndData 44 = .ok (.getfield 26, 3) := by decide +kernel
theorem d_Re_takeTapeAsNameAndData_47 : decode b_Re_takeTapeAsNameAndData 47 = .ok (.ifCond .ne 7, 3) := by decide +kernel
theorem d_Re_takeTapeAsNameAndData_50 : decode b_Re_takeTapeAsNameAndData 50 = .ok (.iconst 1, 1) := by decide +kernel
theorem d_Re_takeTapeAsNameAndData_51 : decode b_Re_takeTapeAsNameAndData 51 = .ok (.goto 4, 3) := by decide +kernel
theorem d_Re_takeTapeAsNameAndData_54 : decode b_Re_takeTapeAsNameAndData 54 = .ok (.iconst 0, 1) := by decide +kernel
theorem d_Re_takeTapeAsNameAndData_55 : decode b_Re_takeTapeAsNameAndData 55 = .ok (.istore_n 3, 1) := by decide +kernel
theorem d_Re_takeTapeAsNameAndData_56 : decode b_Re_takeTapeAsNameAndData 56 = .ok (.iload_n 3, 1) := by decide +kernel
theorem d_Re_takeTapeAsNameAndData_57 : decode b_Re_takeTapeAsNameAndData 57 = .ok (.ifCond .ne 11, 3) := by decide +kernel
theorem d_Re_takeTapeAsNameAndData_60 : decode b_Re_takeTapeAsNameAndData 60 = .ok (.aload_n 0, 1) := by decide +kernel
theorem d_Re_takeTapeAsNameAndData_61 : decode b_Re_takeTapeAsNameAndData 61 = .ok (.iload_n 2, 1) := by decide +kernel
theorem d_Re_takeTapeAsNameAndData_62 : decode b_Re_takeTapeAsNameAndData 62 = .ok (.invokevirtual 79, 3) := by decide +kernel
theorem d_Re_takeTapeAsNameAndData_65 : decode b_Re_takeTapeAsNameAndData 65 = .ok (.ifCond .eq 7, 3) := by decide +kernel
theorem d_Re_takeTapeAsNameAndData_68 : decode b_Re_takeTapeAsNameAndData 68 = .ok (.iconst 1, 1) := by decide +kernel
theorem d_Re_takeTapeAsNameAndData_69 : decode b_Re_takeTapeAsNameAndData 69 = .ok (.goto 4, 3) := by decide +kernel
theorem d_Re_takeTapeAsNameAndData_72 : decode b_Re_takeTapeAsNameAndData 72 = .ok (.iconst 0, 1) := by decide +kernel
theorem d_Re_takeTapeAsNameAndData_73 : decode b_Re_takeTapeAsNameAndData 73 = .ok (.ireturn, 1) := by decide +kernel
set_option maxHeartbeats 4000000 in
set_option maxRecDepth 100000 in
/-- Reader.takeTapeAsName -/
theorem m_Re_takeTapeAsName (l : Launch) (D9 : va_G) (cB cI cJ cG : ClassId) (a : Nat → Nat) (O : Nat → Int64) (I : Nat → Int32) (F : Nat → Nat → Int32) (t : List Nat) (hT2 : I 2 = nI t.length) (htl : t.length ≤ 65536) (hT : BR 0 65536 (F 2) t) (L : List Nat) (hL3 : I 3 = nI L.length) (hLb : L.length < 200000) (hBL : BR 0 65536 (F 4) L) : MC l D9 cB cI cJ cG a O y_Re_takeTapeAsName b_Re_takeTapeAsName 3 (some .boolean) 4 [.ref (a 17)] I F (fun v I' F' => (∃ nm, qN t = some nm ∧ v = some (.int (nI 1)) ∧ sm [3, 6, 7, 8] I I' ∧ I' 3 = nI (L ++ nm).length ∧ I' 8 = nI nm.length ∧ sm [4] F F' ∧ BR 0 65536 (F' 4) (L ++ nm)) ∨ (qN t = none ∧ v = some (.int (nI 0)) ∧ sm [3, 4, 5, 6, 7, 8] I I' ∧ I' 3 = nI L.length ∧ sm [4] F F' ∧ BR 0 65536 (F' 4) L)) := by
  refine mc_of (by decide) (Nat.le_of_ble_eq_true rfl) ?_
  intro p e s m below meth c ls A0 Q C0 hP hD hA hS hl hret
  obtain ⟨hx, hb, hml, hr, hlocks, hown, hts, hK⟩ := id C0
  have hl : lv_has ls 3 [(0, .ref (a 17))] := hl
  refine lv_aload_n hx hb d_Re_takeTapeAsName_0 rfl (lv_at hl 0 rfl) ?_
  refine va_get (D := D9) (ci := 4) (C := R_Re) (T := F_Re) (N := 8) hx hb hts i_Re hown hK hP 17 ww_17 rfl 1 (by decide) (hts _ g_121) (fun _ h9 => h9) rfl d_Re_takeTapeAsName_1 ?_
  refine va_getN (D := D9) (ci := 2) (C := R_Ga) (T := F_Ga) (N := 11) hx hb hts i_Ga hown hK hP 19 ww_19 rfl 0 (by decide) (hts _ g_60) (fun _ h9 => h9) rfl d_Re_takeTapeAsName_4 ?_
  refine va_getN (D := D9) (ci := 0) (C := R_By) (T := F_By) (N := 2) hx hb hts i_By hown hK hP 3 ww_3 rfl 1 (by decide) (hts _ g_39) (fun _ h9 => h9) rfl d_Re_takeTapeAsName_7 ?_
  refine lv_topq (y := nI L.length) (hL3) ?_
  refine lv_istore_n (lv' := [(1, _), (0, _)]) hx hb d_Re_takeTapeAsName_10 rfl hl (by decide) rfl (fun ls hl => ?_)
  refine lv_aload_n hx hb d_Re_takeTapeAsName_11 rfl (lv_at hl 1 rfl) ?_
  refine lv_iconst (v := 0) hx hb d_Re_takeTapeAsName_12 (by decide) ?_
  refine lv_topq (y := nI 0) (rfl) ?_
  refine va_put (D := D9) (ty := .int) (ci := 4) (C := R_Re) (T := F_Re) (N := 8) hx hb hts i_Re t_Re t_Re_ok n_Re hown hK hP hD hS 17 ww_17 rfl 5 (by decide) (hts _ g_126) (fun _ h9 => h9) rfl (by decide +kernel) rfl rfl (Nat.le_of_ble_eq_true rfl) d_Re_takeTapeAsName_13 (fun H locs hP hD hS => ?_)
  obtain ⟨I1, aI1, sI1, hP, hD⟩ := fx (P := fun z => va_P D9 cls9 (WW a cB cI cJ cG z _ O) H ∧ va_D A0 (WW a cB cI cJ cG z _ O)) ⟨wp_7 hP, wd_7 hD⟩
  refine lv_aload_n hx hb d_Re_takeTapeAsName_16 rfl (lv_at hl 1 rfl) ?_
  refine lv_iconst (v := 0) hx hb d_Re_takeTapeAsName_17 (by decide) ?_
  refine lv_topq (y := nI 0) (rfl) ?_
  refine mw_cV (ci := 4) (k := 17) C0 (m_Re_takeOwner l D9 cB cI cJ cG a O _ _ t ((sI1 2 (by decide)).trans hT2) htl hT L 0 0 ((sI1 3 (by decide)).trans hL3) (by omega) hBL (by omega) aI1) g_275 g_4 g_272 g_274 gs_Re_takeOwner ⟨by decide +kernel, by decide +kernel, show Option.map (fun d => d.parameters.length) (parseMethodDescriptor y_Re_takeOwner.desc) = some 1 by decide +kernel⟩ ⟨by decide, by decide⟩ rfl rfl hP hD hS hA rfl ww_17 hl.1 (Nat.le_of_ble_eq_true rfl) rfl d_Re_takeTapeAsName_18 ⟨by decide, by decide⟩ (fun v9 w9 H locs hq hP hD hS => ?_)
  obtain ⟨I2, F3, hw9, q4⟩ := hq
  subst hw9
  rcases q4 with ⟨nm1, e1, c_1, hr1, rfl, sn1, z31, z61, z71, z81, sG1, wB1⟩ | ⟨hr1, rfl, sn1, z31, sG1, wB1⟩
  · have hbd1 := rn_bd hr1 (by decide)
    have hln1 : (L ++ nm1).length = L.length + nm1.length := List.length_append
    refine lv_if_eq (tgt := 49) hx hb d_Re_takeTapeAsName_21 (by decide) (fun c5 => ?_) (fun c5 => ?_)
    · exact absurd c5 (by decide)
    · refine lv_aload_n hx hb d_Re_takeTapeAsName_24 rfl (lv_at hl 1 rfl) ?_
      refine va_get (D := D9) (ci := 4) (C := R_Re) (T := F_Re) (N := 8) hx hb hts i_Re hown hK hP 17 ww_17 rfl 4 (by decide) (hts _ g_125) (fun _ h9 => h9) rfl d_Re_takeTapeAsName_25 ?_
      refine lv_topq (y := nI e1) (z61) ?_
      refine lv_aload_n hx hb d_Re_takeTapeAsName_28 rfl (lv_at hl 1 rfl) ?_
      refine va_get (D := D9) (ci := 4) (C := R_Re) (T := F_Re) (N := 8) hx hb hts i_Re hown hK hP 17 ww_17 rfl 0 (by decide) (hts _ g_120) (fun _ h9 => h9) rfl d_Re_takeTapeAsName_29 ?_
      refine va_getN (D := D9) (ci := 0) (C := R_By) (T := F_By) (N := 2) hx hb hts i_By hown hK hP 1 ww_1 rfl 1 (by decide) (hts _ g_39) (fun _ h9 => h9) rfl d_Re_takeTapeAsName_32 ?_
      refine lv_topq (y := nI t.length) (((sn1 2 (by decide)).trans ((sI1 2 (by decide)).trans hT2))) ?_
      refine lv_icmp_ne (tgt := 49) hx hb d_Re_takeTapeAsName_35 (by decide) (fun c6 => ?_) (fun c6 => ?_)
      · have c6 : ¬ (e1 = t.length) := fun z9 => c6 ((nI_eq (a := e1) (b := t.length) (by omega) (by omega)).mpr z9)
        refine lv_iconst (v := 0) hx hb d_Re_takeTapeAsName_49 (by decide) ?_
        refine lv_topq (y := nI 0) (rfl) ?_
        refine lv_istore_n (lv' := [(2, _), (1, _), (0, _)]) hx hb d_Re_takeTapeAsName_50 rfl hl (by decide) rfl (fun ls hl => ?_)
        refine lv_iload_n hx hb d_Re_takeTapeAsName_51 rfl (lv_at hl 0 rfl) ?_
        refine lv_if_ne (tgt := 63) hx hb d_Re_takeTapeAsName_52 (by decide) (fun c7 => ?_) (fun c7 => ?_)
        · exact absurd c7 (by decide)
        · refine lv_aload_n hx hb d_Re_takeTapeAsName_55 rfl (lv_at hl 2 rfl) ?_
          refine lv_iload_n hx hb d_Re_takeTapeAsName_56 rfl (lv_at hl 1 rfl) ?_
          refine mw_cV (ci := 4) (k := 17) C0 (m_Re_takeBackTo l D9 cB cI cJ cG a O _ _ (nI L.length)) g_495 g_4 g_492 g_494 gs_Re_takeBackTo ⟨by decide +kernel, by decide +kernel, show Option.map (fun d => d.parameters.length) (parseMethodDescriptor y_Re_takeBackTo.desc) = some 1 by decide +kernel⟩ ⟨by decide, by decide⟩ rfl rfl hP hD hS hA rfl ww_17 hl.1 (Nat.le_of_ble_eq_true rfl) rfl d_Re_takeTapeAsName_57 ⟨by decide, by decide⟩ (fun v9 w9 H locs hq hP hD hS => ?_)
          obtain ⟨I8, F9, hw9, q10⟩ := hq
          subst hw9
          obtain ⟨rfl, sI8, zI8, rfl⟩ := q10
          refine lv_if_eq (tgt := 67) hx hb d_Re_takeTapeAsName_60 (by decide) (fun c11 => ?_) (fun c11 => ?_)
          · refine lv_iconst (v := 0) hx hb d_Re_takeTapeAsName_67 (by decide) ?_
            refine lv_topq (y := nI 0) (rfl) ?_
            exact hret _ _ _ _ _ _ _ hS hP hD d_Re_takeTapeAsName_68 (nr_z (Or.inl rfl)) (Or.inr ⟨by unfold qN; rw [hr1]; simp only; rw [if_neg (by omega)], rfl, (sm_tr (sm_tr (sm_mo sI1 (by decide)) (sm_mo sn1 (by decide))) (sm_mo sI8 (by decide))), zI8, (sm_mo sG1 (by decide)), BR_pre wB1⟩)
          · exact absurd c11 (by decide)
      · have c6 : e1 = t.length := (nI_eq (a := e1) (b := t.length) (by omega) (by omega)).mp c6
        refine lv_aload_n hx hb d_Re_takeTapeAsName_38 rfl (lv_at hl 1 rfl) ?_
        refine va_get (D := D9) (ci := 4) (C := R_Re) (T := F_Re) (N := 8) hx hb hts i_Re hown hK hP 17 ww_17 rfl 5 (by decide) (hts _ g_126) (fun _ h9 => h9) rfl d_Re_takeTapeAsName_39 ?_
        refine lv_topq (y := nI (0 + c_1)) (z71) ?_
        refine lv_if_ne (tgt := 49) hx hb d_Re_takeTapeAsName_42 (by decide) (fun c12 => ?_) (fun c12 => ?_)
        · have c12 : ¬ (0 + c_1 = 0) := fun z9 => c12 ((nI_eq (a := 0 + c_1) (b := 0) (by omega) (by omega)).mpr z9)
          refine lv_iconst (v := 0) hx hb d_Re_takeTapeAsName_49 (by decide) ?_
          refine lv_topq (y := nI 0) (rfl) ?_
          refine lv_istore_n (lv' := [(2, _), (1, _), (0, _)]) hx hb d_Re_takeTapeAsName_50 rfl hl (by decide) rfl (fun ls hl => ?_)
          refine lv_iload_n hx hb d_Re_takeTapeAsName_51 rfl (lv_at hl 0 rfl) ?_
          refine lv_if_ne (tgt := 63) hx hb d_Re_takeTapeAsName_52 (by decide) (fun c13 => ?_) (fun c13 => ?_)
          · exact absurd c13 (by decide)
          · refine lv_aload_n hx hb d_Re_takeTapeAsName_55 rfl (lv_at hl 2 rfl) ?_
            refine lv_iload_n hx hb d_Re_takeTapeAsName_56 rfl (lv_at hl 1 rfl) ?_
            refine mw_cV (ci := 4) (k := 17) C0 (m_Re_takeBackTo l D9 cB cI cJ cG a O _ _ (nI L.length)) g_495 g_4 g_492 g_494 gs_Re_takeBackTo ⟨by decide +kernel, by decide +kernel, show Option.map (fun d => d.parameters.length) (parseMethodDescriptor y_Re_takeBackTo.desc) = some 1 by decide +kernel⟩ ⟨by decide, by decide⟩ rfl rfl hP hD hS hA rfl ww_17 hl.1 (Nat.le_of_ble_eq_true rfl) rfl d_Re_takeTapeAsName_57 ⟨by decide, by decide⟩ (fun v9 w9 H locs hq hP hD hS => ?_)
            obtain ⟨I14, F15, hw9, q16⟩ := hq
            subst hw9
            obtain ⟨rfl, sI14, zI14, rfl⟩ := q16
            refine lv_if_eq (tgt := 67) hx hb d_Re_takeTapeAsName_60 (by decide) (fun c17 => ?_) (fun c17 => ?_)
            · refine lv_iconst (v := 0) hx hb d_Re_takeTapeAsName_67 (by decide) ?_
              refine lv_topq (y := nI 0) (rfl) ?_
              exact hret _ _ _ _ _ _ _ hS hP hD d_Re_takeTapeAsName_68 (nr_z (Or.inl rfl)) (Or.inr ⟨by unfold qN; rw [hr1]; simp only; rw [if_neg (by omega)], rfl, (sm_tr (sm_tr (sm_mo sI1 (by decide)) (sm_mo sn1 (by decide))) (sm_mo sI14 (by decide))), zI14, (sm_mo sG1 (by decide)), BR_pre wB1⟩)
            · exact absurd c17 (by decide)
        · have c12 : 0 + c_1 = 0 := (nI_eq (a := 0 + c_1) (b := 0) (by omega) (by omega)).mp c12
          refine lv_iconst (v := 1) hx hb d_Re_takeTapeAsName_45 (by decide) ?_
          refine lv_topq (y := nI 1) (rfl) ?_
          refine lv_goto (tgt := 50) hx hb d_Re_takeTapeAsName_46 (by decide) ?_
          refine lv_istore_n (lv' := [(2, _), (1, _), (0, _)]) hx hb d_Re_takeTapeAsName_50 rfl hl (by decide) rfl (fun ls hl => ?_)
          refine lv_iload_n hx hb d_Re_takeTapeAsName_51 rfl (lv_at hl 0 rfl) ?_
          refine lv_if_ne (tgt := 63) hx hb d_Re_takeTapeAsName_52 (by decide) (fun c18 => ?_) (fun c18 => ?_)
          · refine lv_iconst (v := 1) hx hb d_Re_takeTapeAsName_63 (by decide) ?_
            refine lv_topq (y := nI 1) (rfl) ?_
            refine lv_goto (tgt := 68) hx hb d_Re_takeTapeAsName_64 (by decide) ?_
            exact hret _ _ _ _ _ _ _ hS hP hD d_Re_takeTapeAsName_68 (nr_z (Or.inr rfl)) (Or.inl ⟨nm1, by unfold qN; rw [hr1]; simp only; rw [if_pos (by omega)], rfl, (sm_tr (sm_mo sI1 (by decide)) (sm_mo sn1 (by decide))), (z31).trans (congrArg nI (by simp only [List.append_assoc])), z81, (sm_mo sG1 (by decide)), by simpa only [List.append_assoc] using wB1⟩)
          · exact absurd c18 (by decide)
  · refine lv_if_eq (tgt := 49) hx hb d_Re_takeTapeAsName_21 (by decide) (fun c19 => ?_) (fun c19 => ?_)
    · refine lv_iconst (v := 0) hx hb d_Re_takeTapeAsName_49 (by decide) ?_
      refine lv_topq (y := nI 0) (rfl) ?_
      refine lv_istore_n (lv' := [(2, _), (1, _), (0, _)]) hx hb d_Re_takeTapeAsName_50 rfl hl (by decide) rfl (fun ls hl => ?_)
      refine lv_iload_n hx hb d_Re_takeTapeAsName_51 rfl (lv_at hl 0 rfl) ?_
      refine lv_if_ne (tgt := 63) hx hb d_Re_takeTapeAsName_52 (by decide) (fun c20 => ?_) (fun c20 => ?_)
      · exact absurd c20 (by decide)
      · refine lv_aload_n hx hb d_Re_takeTapeAsName_55 rfl (lv_at hl 2 rfl) ?_
        refine lv_iload_n hx hb d_Re_takeTapeAsName_56 rfl (lv_at hl 1 rfl) ?_
        refine mw_cV (ci := 4) (k := 17) C0 (m_Re_takeBackTo l D9 cB cI cJ cG a O _ _ (nI L.length)) g_495 g_4 g_492 g_494 gs_Re_takeBackTo ⟨by decide +kernel, by decide +kernel, show Option.map (fun d => d.parameters.length) (parseMethodDescriptor y_Re_takeBackTo.desc) = some 1 by decide +kernel⟩ ⟨by decide, by decide⟩ rfl rfl hP hD hS hA rfl ww_17 hl.1 (Nat.le_of_ble_eq_true rfl) rfl d_Re_takeTapeAsName_57 ⟨by decide, by decide⟩ (fun v9 w9 H locs hq hP hD hS => ?_)
        obtain ⟨I21, F22, hw9, q23⟩ := hq
        subst hw9
        obtain ⟨rfl, sI21, zI21, rfl⟩ := q23
        refine lv_if_eq (tgt := 67) hx hb d_Re_takeTapeAsName_60 (by decide) (fun c24 => ?_) (fun c24 => ?_)
        · refine lv_iconst (v := 0) hx hb d_Re_takeTapeAsName_67 (by decide) ?_
          refine lv_topq (y := nI 0) (rfl) ?_
          exact hret _ _ _ _ _ _ _ hS hP hD d_Re_takeTapeAsName_68 (nr_z (Or.inl rfl)) (Or.inr ⟨by unfold qN; rw [hr1], rfl, (sm_tr (sm_tr (sm_mo sI1 (by decide)) (sm_mo sn1 (by decide))) (sm_mo sI21 (by decide))), zI21, (sm_mo sG1 (by decide)), wB1⟩)
        · exact absurd c24 (by decide)
    · exact absurd c19 (by decide)
set_option maxHeartbeats 4000000 in
set_option maxRecDepth 100000 in
/-- Reader.takeTapeAsNameAndData -/
theorem m_Re_takeTapeAsNameAndData (l : Launch) (D9 : va_G) (cB cI cJ cG : ClassId) (a : Nat → Nat) (O : Nat → Int64) (I : Nat → Int32) (F : Nat → Nat → Int32) (t : List Nat) (hT2 : I 2 = nI t.length) (htl : t.length ≤ 65536) (hT : BR 0 65536 (F 2) t) (L : List Nat) (hL3 : I 3 = nI L.length) (hLb : L.length < 200000) (hBL : BR 0 65536 (F 4) L) (ty : Nat) (hty : ty < 65536) : MC l D9 cB cI cJ cG a O y_Re_takeTapeAsNameAndData b_Re_takeTapeAsNameAndData 4 (some .boolean) 6 [.ref (a 17), .int (nI ty)] I F (fun v I' F' => (∃ nm d, qD t ty = some (nm, d) ∧ v = some (.int (nI 1)) ∧ sm [3, 6, 7, 8, 9] I I' ∧ I' 3 = nI (L ++ (nm ++ d)).length ∧ I' 8 = nI nm.length ∧ sm [4] F F' ∧ BR 0 65536 (F' 4) (L ++ (nm ++ d))) ∨ (qD t ty = none ∧ v = some (.int (nI 0)) ∧ sm [3, 4, 5, 6, 7, 8, 9] I I' ∧ I' 3 = nI L.length ∧ sm [4] F F' ∧ BR 0 65536 (F' 4) L)) := by
  refine mc_of (by decide) (Nat.le_of_ble_eq_true rfl) ?_
  intro p e s m below meth c ls A0 Q C0 hP hD hA hS hl hret
  obtain ⟨hx, hb, hml, hr, hlocks, hown, hts, hK⟩ := id C0
  have hl : lv_has ls 4 [(0, .ref (a 17)), (1, .int (nI ty))] := hl
  refine lv_aload_n hx hb d_Re_takeTapeAsNameAndData_0 rfl (lv_at hl 0 rfl) ?_
  refine va_get (D := D9) (ci := 4) (C := R_Re) (T := F_Re) (N := 8) hx hb hts i_Re hown hK hP 17 ww_17 rfl 1 (by decide) (hts _ g_121) (fun _ h9 => h9) rfl d_Re_takeTapeAsNameAndData_1 ?_
  refine va_getN (D := D9) (ci := 2) (C := R_Ga) (T := F_Ga) (N := 11) hx hb hts i_Ga hown hK hP 19 ww_19 rfl 0 (by decide) (hts _ g_60) (fun _ h9 => h9) rfl d_Re_takeTapeAsNameAndData_4 ?_
  refine va_getN (D := D9) (ci := 0) (C := R_By) (T := F_By) (N := 2) hx hb hts i_By hown hK hP 3 ww_3 rfl 1 (by decide) (hts _ g_39) (fun _ h9 => h9) rfl d_Re_takeTapeAsNameAndData_7 ?_
  refine lv_topq (y := nI L.length) (hL3) ?_
  refine lv_istore_n (lv' := [(2, _), (0, _), (1, _)]) hx hb d_Re_takeTapeAsNameAndData_10 rfl hl (by decide) rfl (fun ls hl => ?_)
  refine lv_aload_n hx hb d_Re_takeTapeAsNameAndData_11 rfl (lv_at hl 1 rfl) ?_
  refine lv_iconst (v := 0) hx hb d_Re_takeTapeAsNameAndData_12 (by decide) ?_
  refine lv_topq (y := nI 0) (rfl) ?_
  refine va_put (D := D9) (ty := .int) (ci := 4) (C := R_Re) (T := F_Re) (N := 8) hx hb hts i_Re t_Re t_Re_ok n_Re hown hK hP hD hS 17 ww_17 rfl 5 (by decide) (hts _ g_126) (fun _ h9 => h9) rfl (by decide +kernel) rfl rfl (Nat.le_of_ble_eq_true rfl) d_Re_takeTapeAsNameAndData_13 (fun H locs hP hD hS => ?_)
  obtain ⟨I1, aI1, sI1, hP, hD⟩ := fx (P := fun z => va_P D9 cls9 (WW a cB cI cJ cG z _ O) H ∧ va_D A0 (WW a cB cI cJ cG z _ O)) ⟨wp_7 hP, wd_7 hD⟩
  refine lv_aload_n hx hb d_Re_takeTapeAsNameAndData_16 rfl (lv_at hl 1 rfl) ?_
  refine lv_iconst (v := 0) hx hb d_Re_takeTapeAsNameAndData_17 (by decide) ?_
  refine lv_topq (y := nI 0) (rfl) ?_
  refine mw_cV (ci := 4) (k := 17) C0 (m_Re_takeOwner l D9 cB cI cJ cG a O _ _ t ((sI1 2 (by decide)).trans hT2) htl hT L 0 0 ((sI1 3 (by decide)).trans hL3) (by omega) hBL (by omega) aI1) g_275 g_4 g_272 g_274 gs_Re_takeOwner ⟨by decide +kernel, by decide +kernel, show Option.map (fun d => d.parameters.length) (parseMethodDescriptor y_Re_takeOwner.desc) = some 1 by decide +kernel⟩ ⟨by decide, by decide⟩ rfl rfl hP hD hS hA rfl ww_17 hl.1 (Nat.le_of_ble_eq_true rfl) rfl d_Re_takeTapeAsNameAndData_18 ⟨by decide, by decide⟩ (fun v9 w9 H locs hq hP hD hS => ?_)
  obtain ⟨I2, F3, hw9, q4⟩ := hq
  subst hw9
  rcases q4 with ⟨nm1, e1, c_1, hr1, rfl, sn1, z31, z61, z71, z81, sG1, wB1⟩ | ⟨hr1, rfl, sn1, z31, sG1, wB1⟩
  · have hbd1 := rn_bd hr1 (by decide)
    have hln1 : (L ++ nm1).length = L.length + nm1.length := List.length_append
    refine lv_if_eq (tgt := 54) hx hb d_Re_takeTapeAsNameAndData_21 (by decide) (fun c5 => ?_) (fun c5 => ?_)
    · exact absurd c5 (by decide)
    · refine lv_aload_n hx hb d_Re_takeTapeAsNameAndData_24 rfl (lv_at hl 1 rfl) ?_
      refine lv_iload_n hx hb d_Re_takeTapeAsNameAndData_25 rfl (lv_at hl 2 rfl) ?_
      refine lv_aload_n hx hb d_Re_takeTapeAsNameAndData_26 rfl (lv_at hl 1 rfl) ?_
      refine va_get (D := D9) (ci := 4) (C := R_Re) (T := F_Re) (N := 8) hx hb hts i_Re hown hK hP 17 ww_17 rfl 4 (by decide) (hts _ g_125) (fun _ h9 => h9) rfl d_Re_takeTapeAsNameAndData_27 ?_
      refine lv_topq (y := nI e1) (z61) ?_
      refine lv_aload_n hx hb d_Re_takeTapeAsNameAndData_30 rfl (lv_at hl 1 rfl) ?_
      refine va_get (D := D9) (ci := 4) (C := R_Re) (T := F_Re) (N := 8) hx hb hts i_Re hown hK hP 17 ww_17 rfl 0 (by decide) (hts _ g_120) (fun _ h9 => h9) rfl d_Re_takeTapeAsNameAndData_31 ?_
      refine va_getN (D := D9) (ci := 0) (C := R_By) (T := F_By) (N := 2) hx hb hts i_By hown hK hP 1 ww_1 rfl 1 (by decide) (hts _ g_39) (fun _ h9 => h9) rfl d_Re_takeTapeAsNameAndData_34 ?_
      refine lv_topq (y := nI t.length) (((sn1 2 (by decide)).trans ((sI1 2 (by decide)).trans hT2))) ?_
      refine mw_cV (ci := 4) (k := 17) C0 (m_Re_takeData l D9 cB cI cJ cG a O _ _ t (((sn1 2 (by decide)).trans (sI1 2 (by decide))).trans hT2) htl (BR_eq hT (sG1 2 (by decide))) (L ++ nm1) ty e1 t.length (0 + c_1) z31 (by omega) wB1 hty (by omega) (by omega) z71 (by omega) nm1.length z81 (by omega)) g_327 g_4 g_324 g_326 gs_Re_takeData ⟨by decide +kernel, by decide +kernel, show Option.map (fun d => d.parameters.length) (parseMethodDescriptor y_Re_takeData.desc) = some 3 by decide +kernel⟩ ⟨by decide, by decide⟩ rfl rfl hP hD hS hA rfl ww_17 hl.1 (Nat.le_of_ble_eq_true rfl) rfl d_Re_takeTapeAsNameAndData_37 ⟨by decide, by decide⟩ (fun v9 w9 H locs hq hP hD hS => ?_)
      obtain ⟨I6, F7, hw9, q8⟩ := hq
      subst hw9
      rcases q8 with ⟨da, e_a, hda, rfl, tda, x3a, x7a, xFa, xBa⟩ | ⟨hda, rfl, tda, x3a, xFa, xBa⟩
      · have hbea := rdD_bd hda
        have hcea := rdD_c hda
        have hlxa : (L ++ nm1 ++ da).length = (L ++ nm1).length + da.length := List.length_append
        refine lv_if_eq (tgt := 54) hx hb d_Re_takeTapeAsNameAndData_40 (by decide) (fun c9 => ?_) (fun c9 => ?_)
        · exact absurd c9 (by decide)
        · refine lv_aload_n hx hb d_Re_takeTapeAsNameAndData_43 rfl (lv_at hl 1 rfl) ?_
          refine va_get (D := D9) (ci := 4) (C := R_Re) (T := F_Re) (N := 8) hx hb hts i_Re hown hK hP 17 ww_17 rfl 5 (by decide) (hts _ g_126) (fun _ h9 => h9) rfl d_Re_takeTapeAsNameAndData_44 ?_
          refine lv_topq (y := nI (0 + c_1 + e_a)) (x7a) ?_
          refine lv_if_ne (tgt := 54) hx hb d_Re_takeTapeAsNameAndData_47 (by decide) (fun c10 => ?_) (fun c10 => ?_)
          · have c10 : ¬ (0 + c_1 + e_a = 0) := fun z9 => c10 ((nI_eq (a := 0 + c_1 + e_a) (b := 0) (by omega) (by omega)).mpr z9)
            refine lv_iconst (v := 0) hx hb d_Re_takeTapeAsNameAndData_54 (by decide) ?_
            refine lv_topq (y := nI 0) (rfl) ?_
            refine lv_istore_n (lv' := [(3, _), (2, _), (0, _), (1, _)]) hx hb d_Re_takeTapeAsNameAndData_55 rfl hl (by decide) rfl (fun ls hl => ?_)
            refine lv_iload_n hx hb d_Re_takeTapeAsNameAndData_56 rfl (lv_at hl 0 rfl) ?_
            refine lv_if_ne (tgt := 68) hx hb d_Re_takeTapeAsNameAndData_57 (by decide) (fun c11 => ?_) (fun c11 => ?_)
            · exact absurd c11 (by decide)
            · refine lv_aload_n hx hb d_Re_takeTapeAsNameAndData_60 rfl (lv_at hl 2 rfl) ?_
              refine lv_iload_n hx hb d_Re_takeTapeAsNameAndData_61 rfl (lv_at hl 1 rfl) ?_
              refine mw_cV (ci := 4) (k := 17) C0 (m_Re_takeBackTo l D9 cB cI cJ cG a O _ _ (nI L.length)) g_495 g_4 g_492 g_494 gs_Re_takeBackTo ⟨by decide +kernel, by decide +kernel, show Option.map (fun d => d.parameters.length) (parseMethodDescriptor y_Re_takeBackTo.desc) = some 1 by decide +kernel⟩ ⟨by decide, by decide⟩ rfl rfl hP hD hS hA rfl ww_17 hl.1 (Nat.le_of_ble_eq_true rfl) rfl d_Re_takeTapeAsNameAndData_62 ⟨by decide, by decide⟩ (fun v9 w9 H locs hq hP hD hS => ?_)
              obtain ⟨I12, F13, hw9, q14⟩ := hq
              subst hw9
              obtain ⟨rfl, sI12, zI12, rfl⟩ := q14
              refine lv_if_eq (tgt := 72) hx hb d_Re_takeTapeAsNameAndData_65 (by decide) (fun c15 => ?_) (fun c15 => ?_)
              · refine lv_iconst (v := 0) hx hb d_Re_takeTapeAsNameAndData_72 (by decide) ?_
                refine lv_topq (y := nI 0) (rfl) ?_
                exact hret _ _ _ _ _ _ _ hS hP hD d_Re_takeTapeAsNameAndData_73 (nr_z (Or.inl rfl)) (Or.inr ⟨by unfold qD; rw [hr1]; simp only; rw [hda]; simp only; rw [if_neg (by omega)], rfl, (sm_tr (sm_tr (sm_tr (sm_mo sI1 (by decide)) (sm_mo sn1 (by decide))) (sm_mo tda (by decide))) (sm_mo sI12 (by decide))), zI12, (sm_tr (sm_mo sG1 (by decide)) (sm_mo xFa (by decide))), BR_pre (BR_pre xBa)⟩)
              · exact absurd c15 (by decide)
          · have c10 : 0 + c_1 + e_a = 0 := (nI_eq (a := 0 + c_1 + e_a) (b := 0) (by omega) (by omega)).mp c10
            refine lv_iconst (v := 1) hx hb d_Re_takeTapeAsNameAndData_50 (by decide) ?_
            refine lv_topq (y := nI 1) (rfl) ?_
            refine lv_goto (tgt := 55) hx hb d_Re_takeTapeAsNameAndData_51 (by decide) ?_
            refine lv_istore_n (lv' := [(3, _), (2, _), (0, _), (1, _)]) hx hb d_Re_takeTapeAsNameAndData_55 rfl hl (by decide) rfl (fun ls hl => ?_)
            refine lv_iload_n hx hb d_Re_takeTapeAsNameAndData_56 rfl (lv_at hl 0 rfl) ?_
            refine lv_if_ne (tgt := 68) hx hb d_Re_takeTapeAsNameAndData_57 (by decide) (fun c16 => ?_) (fun c16 => ?_)
            · refine lv_iconst (v := 1) hx hb d_Re_takeTapeAsNameAndData_68 (by decide) ?_
              refine lv_topq (y := nI 1) (rfl) ?_
              refine lv_goto (tgt := 73) hx hb d_Re_takeTapeAsNameAndData_69 (by decide) ?_
              exact hret _ _ _ _ _ _ _ hS hP hD d_Re_takeTapeAsNameAndData_73 (nr_z (Or.inr rfl)) (Or.inl ⟨nm1, da, by unfold qD; rw [hr1]; simp only; rw [hda]; simp only; rw [if_pos (by omega)], rfl, (sm_tr (sm_tr (sm_mo sI1 (by decide)) (sm_mo sn1 (by decide))) (sm_mo tda (by decide))), (x3a).trans (congrArg nI (by simp only [List.append_assoc])), ((tda 8 (by decide)).trans z81), (sm_tr (sm_mo sG1 (by decide)) (sm_mo xFa (by decide))), by simpa only [List.append_assoc] using xBa⟩)
            · exact absurd c16 (by decide)
      · refine lv_if_eq (tgt := 54) hx hb d_Re_takeTapeAsNameAndData_40 (by decide) (fun c17 => ?_) (fun c17 => ?_)
        · refine lv_iconst (v := 0) hx hb d_Re_takeTapeAsNameAndData_54 (by decide) ?_
          refine lv_topq (y := nI 0) (rfl) ?_
          refine lv_istore_n (lv' := [(3, _), (2, _), (0, _), (1, _)]) hx hb d_Re_takeTapeAsNameAndData_55 rfl hl (by decide) rfl (fun ls hl => ?_)
          refine lv_iload_n hx hb d_Re_takeTapeAsNameAndData_56 rfl (lv_at hl 0 rfl) ?_
          refine lv_if_ne (tgt := 68) hx hb d_Re_takeTapeAsNameAndData_57 (by decide) (fun c18 => ?_) (fun c18 => ?_)
          · exact absurd c18 (by decide)
          · refine lv_aload_n hx hb d_Re_takeTapeAsNameAndData_60 rfl (lv_at hl 2 rfl) ?_
            refine lv_iload_n hx hb d_Re_takeTapeAsNameAndData_61 rfl (lv_at hl 1 rfl) ?_
            refine mw_cV (ci := 4) (k := 17) C0 (m_Re_takeBackTo l D9 cB cI cJ cG a O _ _ (nI L.length)) g_495 g_4 g_492 g_494 gs_Re_takeBackTo ⟨by decide +kernel, by decide +kernel, show Option.map (fun d => d.parameters.length) (parseMethodDescriptor y_Re_takeBackTo.desc) = some 1 by decide +kernel⟩ ⟨by decide, by decide⟩ rfl rfl hP hD hS hA rfl ww_17 hl.1 (Nat.le_of_ble_eq_true rfl) rfl d_Re_takeTapeAsNameAndData_62 ⟨by decide, by decide⟩ (fun v9 w9 H locs hq hP hD hS => ?_)
            obtain ⟨I19, F20, hw9, q21⟩ := hq
            subst hw9
            obtain ⟨rfl, sI19, zI19, rfl⟩ := q21
            refine lv_if_eq (tgt := 72) hx hb d_Re_takeTapeAsNameAndData_65 (by decide) (fun c22 => ?_) (fun c22 => ?_)
            · refine lv_iconst (v := 0) hx hb d_Re_takeTapeAsNameAndData_72 (by decide) ?_
              refine lv_topq (y := nI 0) (rfl) ?_
              exact hret _ _ _ _ _ _ _ hS hP hD d_Re_takeTapeAsNameAndData_73 (nr_z (Or.inl rfl)) (Or.inr ⟨by unfold qD; rw [hr1]; simp only; rw [hda], rfl, (sm_tr (sm_tr (sm_tr (sm_mo sI1 (by decide)) (sm_mo sn1 (by decide))) (sm_mo tda (by decide))) (sm_mo sI19 (by decide))), zI19, (sm_tr (sm_mo sG1 (by decide)) (sm_mo xFa (by decide))), BR_pre xBa⟩)
            · exact absurd c22 (by decide)
        · exact absurd c17 (by decide)
  · refine lv_if_eq (tgt := 54) hx hb d_Re_takeTapeAsNameAndData_21 (by decide) (fun c23 => ?_) (fun c23 => ?_)
    · refine lv_iconst (v := 0) hx hb d_Re_takeTapeAsNameAndData_54 (by decide) ?_
      refine lv_topq (y := nI 0) (rfl) ?_
      refine lv_istore_n (lv' := [(3, _), (2, _), (0, _), (1, _)]) hx hb d_Re_takeTapeAsNameAndData_55 rfl hl (by decide) rfl (fun ls hl => ?_)
      refine lv_iload_n hx hb d_Re_takeTapeAsNameAndData_56 rfl (lv_at hl 0 rfl) ?_
      refine lv_if_ne (tgt := 68) hx hb d_Re_takeTapeAsNameAndData_57 (by decide) (fun c24 => ?_) (fun c24 => ?_)
      · exact absurd c24 (by decide)
      · refine lv_aload_n hx hb d_Re_takeTapeAsNameAndData_60 rfl (lv_at hl 2 rfl) ?_
        refine lv_iload_n hx hb d_Re_takeTapeAsNameAndData_61 rfl (lv_at hl 1 rfl) ?_
        refine mw_cV (ci := 4) (k := 17) C0 (m_Re_takeBackTo l D9 cB cI cJ cG a O _ _ (nI L.length)) g_495 g_4 g_492 g_494 gs_Re_takeBackTo ⟨by decide +kernel, by decide +kernel, show Option.map (fun d => d.parameters.length) (parseMethodDescriptor y_Re_takeBackTo.desc) = some 1 by decide +kernel⟩ ⟨by decide, by decide⟩ rfl rfl hP hD hS hA rfl ww_17 hl.1 (Nat.le_of_ble_eq_true rfl) rfl d_Re_takeTapeAsNameAndData_62 ⟨by decide, by decide⟩ (fun v9 w9 H locs hq hP hD hS => ?_)
        obtain ⟨I25, F26, hw9, q27⟩ := hq
        subst hw9
        obtain ⟨rfl, sI25, zI25, rfl⟩ := q27
        refine lv_if_eq (tgt := 72) hx hb d_Re_takeTapeAsNameAndData_65 (by decide) (fun c28 => ?_) (fun c28 => ?_)
        · refine lv_iconst (v := 0) hx hb d_Re_takeTapeAsNameAndData_72 (by decide) ?_
          refine lv_topq (y := nI 0) (rfl) ?_
          exact hret _ _ _ _ _ _ _ hS hP hD d_Re_takeTapeAsNameAndData_73 (nr_z (Or.inl rfl)) (Or.inr ⟨by unfold qD; rw [hr1], rfl, (sm_tr (sm_tr (sm_mo sI1 (by decide)) (sm_mo sn1 (by decide))) (sm_mo sI25 (by decide))), zI25, (sm_mo sG1 (by decide)), wB1⟩)
        · exact absurd c28 (by decide)
    · exact absurd c23 (by decide)
set_option maxHeartbeats 4000000 in
set_option maxRecDepth 100000 in
/-- Reader.takeQuestion -/
theorem m_Re_takeQuestion (l : Launch) (D9 : va_G) (cB cI cJ cG : ClassId) (a : Nat → Nat) (O : Nat → Int64) (I : Nat → Int32) (F : Nat → Nat → Int32) (t : List Nat) (hT2 : I 2 = nI t.length) (htl : t.length ≤ 65536) (hT : BR 0 65536 (F 2) t) (es : List En9) (pos fw : Nat) (hG : GaR F es) (hO : okE es) (hL3 : I 3 = nI (fl es).length) (hps : I 6 = nI pos) (hpb : pos ≤ 65536) (hfw : I 7 = nI fw) (hfb : fw < 90000000) : MC l D9 cB cI cJ cG a O y_Re_takeQuestion b_Re_takeQuestion 5 (some .boolean) 4 [.ref (a 17)] I F (fun v I' F' => (∃ x e c, rdQ t pos = some (x, e, c) ∧ okB es x = true ∧ okE (es ++ [x]) ∧ v = some (.int (nI 1)) ∧ sm [3, 6, 7, 8, 9] I I' ∧ I' 3 = nI (fl (es ++ [x])).length ∧ I' 6 = nI e ∧ I' 7 = nI (fw + c) ∧ sm [4, 5, 6, 7, 8, 9, 10, 12, 13, 14, 15, 16] F F' ∧ GaR F' (es ++ [x])) ∨ ((∀ x e c, rdQ t pos = some (x, e, c) → okB es x = false) ∧ v = some (.int (nI 0)) ∧ sm [3, 4, 5, 6, 7, 8, 9] I I' ∧ ¬ I' 4 = 0 ∧ sm [4, 5, 6, 7, 8, 9, 10, 12, 13, 14, 15, 16] F F' ∧ sb_Fit (F' 4))) := by
  refine mc_of (by decide) (Nat.le_of_ble_eq_true rfl) ?_
  intro p e s m below meth c ls A0 Q C0 hP hD hA hS hl hret
  obtain ⟨hx, hb, hml, hr, hlocks, hown, hts, hK⟩ := id C0
  have hl : lv_has ls 5 [(0, .ref (a 17))] := hl
  have k2 := hO.2.2.1
  have hBL := hG.2.2
  refine lv_aload_n hx hb d_Re_takeQuestion_0 rfl (lv_at hl 0 rfl) ?_
  refine va_get (D := D9) (ci := 4) (C := R_Re) (T := F_Re) (N := 8) hx hb hts i_Re hown hK hP 17 ww_17 rfl 4 (by decide) (hts _ g_125) (fun _ h9 => h9) rfl d_Re_takeQuestion_1 ?_
  refine lv_topq (y := nI pos) (hps) ?_
  refine lv_istore_n (lv' := [(1, _), (0, _)]) hx hb d_Re_takeQuestion_4 rfl hl (by decide) rfl (fun ls hl => ?_)
  refine lv_aload_n hx hb d_Re_takeQuestion_5 rfl (lv_at hl 1 rfl) ?_
  refine va_get (D := D9) (ci := 4) (C := R_Re) (T := F_Re) (N := 8) hx hb hts i_Re hown hK hP 17 ww_17 rfl 1 (by decide) (hts _ g_121) (fun _ h9 => h9) rfl d_Re_takeQuestion_6 ?_
  refine va_getN (D := D9) (ci := 2) (C := R_Ga) (T := F_Ga) (N := 11) hx hb hts i_Ga hown hK hP 19 ww_19 rfl 0 (by decide) (hts _ g_60) (fun _ h9 => h9) rfl d_Re_takeQuestion_9 ?_
  refine va_getN (D := D9) (ci := 0) (C := R_By) (T := F_By) (N := 2) hx hb hts i_By hown hK hP 3 ww_3 rfl 1 (by decide) (hts _ g_39) (fun _ h9 => h9) rfl d_Re_takeQuestion_12 ?_
  refine lv_topq (y := nI ((fl es).length)) (hL3) ?_
  refine lv_istore_n (lv' := [(2, _), (1, _), (0, _)]) hx hb d_Re_takeQuestion_15 rfl hl (by decide) rfl (fun ls hl => ?_)
  refine lv_aload_n hx hb d_Re_takeQuestion_16 rfl (lv_at hl 2 rfl) ?_
  refine lv_iload_n hx hb d_Re_takeQuestion_17 rfl (lv_at hl 1 rfl) ?_
  refine mw_cV (ci := 4) (k := 17) C0 (m_Re_takeOwner l D9 cB cI cJ cG a O _ _ t hT2 htl hT (fl es) pos fw hL3 (by omega) hBL (by omega) hfw) g_275 g_4 g_272 g_274 gs_Re_takeOwner ⟨by decide +kernel, by decide +kernel, show Option.map (fun d => d.parameters.length) (parseMethodDescriptor y_Re_takeOwner.desc) = some 1 by decide +kernel⟩ ⟨by decide, by decide⟩ rfl rfl hP hD hS hA rfl ww_17 hl.1 (Nat.le_of_ble_eq_true rfl) rfl d_Re_takeQuestion_18 ⟨by decide, by decide⟩ (fun v9 w9 H locs hq hP hD hS => ?_)
  obtain ⟨I1, F2, hw9, q3⟩ := hq
  subst hw9
  rcases q3 with ⟨nm1, e1, c_1, hr1, rfl, sn1, z31, z61, z71, z81, sG1, wB1⟩ | ⟨hr1, rfl, sn1, z31, sG1, wB1⟩
  · have hbd1 := rn_bd hr1 (by decide)
    have hln1 : (fl es ++ nm1).length = (fl es).length + nm1.length := List.length_append
    refine lv_if_ne (tgt := 26) hx hb d_Re_takeQuestion_21 (by decide) (fun c4 => ?_) (fun c4 => ?_)
    · refine lv_aload_n hx hb d_Re_takeQuestion_26 rfl (lv_at hl 2 rfl) ?_
      refine va_get (D := D9) (ci := 4) (C := R_Re) (T := F_Re) (N := 8) hx hb hts i_Re hown hK hP 17 ww_17 rfl 4 (by decide) (hts _ g_125) (fun _ h9 => h9) rfl d_Re_takeQuestion_27 ?_
      refine lv_topq (y := nI e1) (z61) ?_
      refine lv_istore_n (lv' := [(3, _), (2, _), (1, _), (0, _)]) hx hb d_Re_takeQuestion_30 rfl hl (by decide) rfl (fun ls hl => ?_)
      refine lv_iload_n hx hb d_Re_takeQuestion_31 rfl (lv_at hl 0 rfl) ?_
      refine lv_iconst (v := 4) hx hb d_Re_takeQuestion_32 (by decide) ?_
      refine lv_topq (y := nI 4) (rfl) ?_
      refine lv_iadd hx hb d_Re_takeQuestion_33 ?_
      refine lv_topq (y := nI (e1 + 4)) (nI_add _ _) ?_
      refine lv_aload_n hx hb d_Re_takeQuestion_34 rfl (lv_at hl 3 rfl) ?_
      refine va_get (D := D9) (ci := 4) (C := R_Re) (T := F_Re) (N := 8) hx hb hts i_Re hown hK hP 17 ww_17 rfl 0 (by decide) (hts _ g_120) (fun _ h9 => h9) rfl d_Re_takeQuestion_35 ?_
      refine va_getN (D := D9) (ci := 0) (C := R_By) (T := F_By) (N := 2) hx hb hts i_By hown hK hP 1 ww_1 rfl 1 (by decide) (hts _ g_39) (fun _ h9 => h9) rfl d_Re_takeQuestion_38 ?_
      refine lv_topq (y := nI t.length) (((sn1 2 (by decide)).trans hT2)) ?_
      refine lv_icmp_le (tgt := 51) hx hb d_Re_takeQuestion_41 (by decide) (fun c5 => ?_) (fun c5 => ?_)
      · have c5 : e1 + 4 ≤ t.length := (nI_leI (a := e1 + 4) (b := t.length) (by omega) (by omega)).mp c5
        refine lv_aload_n hx hb d_Re_takeQuestion_51 rfl (lv_at hl 3 rfl) ?_
        refine lv_iload_n hx hb d_Re_takeQuestion_52 rfl (lv_at hl 0 rfl) ?_
        refine lv_iconst (v := 4) hx hb d_Re_takeQuestion_53 (by decide) ?_
        refine lv_topq (y := nI 4) (rfl) ?_
        refine lv_iadd hx hb d_Re_takeQuestion_54 ?_
        refine lv_topq (y := nI (e1 + 4)) (nI_add _ _) ?_
        refine va_put (D := D9) (ty := .int) (ci := 4) (C := R_Re) (T := F_Re) (N := 8) hx hb hts i_Re t_Re t_Re_ok n_Re hown hK hP hD hS 17 ww_17 rfl 4 (by decide) (hts _ g_125) (fun _ h9 => h9) rfl (by decide +kernel) rfl rfl (Nat.le_of_ble_eq_true rfl) d_Re_takeQuestion_55 (fun H locs hP hD hS => ?_)
        obtain ⟨I6, aI6, sI6, hP, hD⟩ := fx (P := fun z => va_P D9 cls9 (WW a cB cI cJ cG z _ O) H ∧ va_D A0 (WW a cB cI cJ cG z _ O)) ⟨wp_6 hP, wd_6 hD⟩
        refine lv_aload_n hx hb d_Re_takeQuestion_58 rfl (lv_at hl 3 rfl) ?_
        refine va_get (D := D9) (ci := 4) (C := R_Re) (T := F_Re) (N := 8) hx hb hts i_Re hown hK hP 17 ww_17 rfl 1 (by decide) (hts _ g_121) (fun _ h9 => h9) rfl d_Re_takeQuestion_59 ?_
        refine lv_iconst (v := 0) hx hb d_Re_takeQuestion_62 (by decide) ?_
        refine lv_topq (y := nI 0) (rfl) ?_
        refine lv_iload_n hx hb d_Re_takeQuestion_63 rfl (lv_at hl 1 rfl) ?_
        refine lv_aload_n hx hb d_Re_takeQuestion_64 rfl (lv_at hl 3 rfl) ?_
        refine va_get (D := D9) (ci := 4) (C := R_Re) (T := F_Re) (N := 8) hx hb hts i_Re hown hK hP 17 ww_17 rfl 6 (by decide) (hts _ g_128) (fun _ h9 => h9) rfl d_Re_takeQuestion_65 ?_
        refine lv_topq (y := nI nm1.length) (((sI6 8 (by decide)).trans z81)) ?_
        refine lv_aload_n hx hb d_Re_takeQuestion_68 rfl (lv_at hl 3 rfl) ?_
        refine va_get (D := D9) (ci := 4) (C := R_Re) (T := F_Re) (N := 8) hx hb hts i_Re hown hK hP 17 ww_17 rfl 0 (by decide) (hts _ g_120) (fun _ h9 => h9) rfl d_Re_takeQuestion_69 ?_
        refine lv_iload_n hx hb d_Re_takeQuestion_72 rfl (lv_at hl 0 rfl) ?_
        refine mw_cVN (ci := 0) (k := 1) C0 (m_By_twoAtL_tp l D9 cB cI cJ cG a O _ _ t e1 (BR_eq hT (sG1 2 (by decide))) htl (by omega)) g_255 g_2 g_252 g_254 gs_By_twoAt ⟨by decide +kernel, by decide +kernel, show Option.map (fun d => d.parameters.length) (parseMethodDescriptor y_By_twoAt.desc) = some 1 by decide +kernel⟩ ⟨by decide, by decide⟩ rfl rfl hP hD hS hA rfl ww_1 hl.1 (Nat.le_of_ble_eq_true rfl) rfl d_Re_takeQuestion_73 ⟨by decide, by decide⟩ (fun v9 w9 H locs hq hP hD hS => ?_)
        obtain ⟨I7, F8, hw9, q9⟩ := hq
        subst hw9
        obtain ⟨rfl, rfl, rfl⟩ := q9
        refine lv_aload_n hx hb d_Re_takeQuestion_76 rfl (lv_at hl 3 rfl) ?_
        refine va_get (D := D9) (ci := 4) (C := R_Re) (T := F_Re) (N := 8) hx hb hts i_Re hown hK hP 17 ww_17 rfl 0 (by decide) (hts _ g_120) (fun _ h9 => h9) rfl d_Re_takeQuestion_77 ?_
        refine lv_iload_n hx hb d_Re_takeQuestion_80 rfl (lv_at hl 0 rfl) ?_
        refine lv_iconst (v := 2) hx hb d_Re_takeQuestion_81 (by decide) ?_
        refine lv_topq (y := nI 2) (rfl) ?_
        refine lv_iadd hx hb d_Re_takeQuestion_82 ?_
        refine lv_topq (y := nI (e1 + 2)) (nI_add _ _) ?_
        refine mw_cVN (ci := 0) (k := 1) C0 (m_By_twoAtL_tp l D9 cB cI cJ cG a O _ _ t (e1 + 2) (BR_eq hT (sG1 2 (by decide))) htl (by omega)) g_255 g_2 g_252 g_254 gs_By_twoAt ⟨by decide +kernel, by decide +kernel, show Option.map (fun d => d.parameters.length) (parseMethodDescriptor y_By_twoAt.desc) = some 1 by decide +kernel⟩ ⟨by decide, by decide⟩ rfl rfl hP hD hS hA rfl ww_1 hl.1 (Nat.le_of_ble_eq_true rfl) rfl d_Re_takeQuestion_83 ⟨by decide, by decide⟩ (fun v9 w9 H locs hq hP hD hS => ?_)
        obtain ⟨I10, F11, hw9, q12⟩ := hq
        subst hw9
        obtain ⟨rfl, rfl, rfl⟩ := q12
        refine lv_iconst (v := 0) hx hb d_Re_takeQuestion_86 (by decide) ?_
        refine lv_topq (y := nI 0) (rfl) ?_
        have hBk : BR 0 65536 (F2 4) (fl es ++ (nm1 ++ ([] : List Nat))) := by simpa only [List.append_assoc, List.append_nil] using wB1
        have hGk : GaR F2 es := GaR_sm (M := [4]) hG (sm_mo sG1 (by decide)) (by decide) (BR_pre hBk) hO
        have hxS : eS ((0, t2 t e1, t2 t (e1 + 2), nI 0, nm1, ([] : List Nat)) : En9) < 4 := by show 0 < 4; omega
        have hxT : eT ((0, t2 t e1, t2 t (e1 + 2), nI 0, nm1, ([] : List Nat)) : En9) < 65536 := t2_lt (i := e1) hT htl (by omega)
        have hxK : eK ((0, t2 t e1, t2 t (e1 + 2), nI 0, nm1, ([] : List Nat)) : En9) < 65536 := t2_lt (i := (e1 + 2)) hT htl (by omega)
        have hok0 := okB_iff hO hxS hxT hxK
        have hLk : I6 3 = nI ((fl es).length + (nm1.length + (([] : List Nat)).length)) := (((sI6 3 (by decide)).trans z31)).trans (congrArg nI (by simp only [List.length_append, List.length_nil]; omega))
        refine mw_cVN (ci := 2) (k := 19) C0 (m_Ga_keep l D9 cB cI cJ cG a O _ _ es ((0, t2 t e1, t2 t (e1 + 2), nI 0, nm1, ([] : List Nat)) : En9) hxS hxT hxK hGk hO hBk hLk (by show nm1.length + (([] : List Nat)).length < _; first | omega | (simp only [List.length_nil]; omega))) g_310 g_3 g_307 g_309 gs_Ga_keep ⟨by decide +kernel, by decide +kernel, show Option.map (fun d => d.parameters.length) (parseMethodDescriptor y_Ga_keep.desc) = some 6 by decide +kernel⟩ ⟨by decide, by decide⟩ rfl rfl hP hD hS hA rfl ww_19 hl.1 (Nat.le_of_ble_eq_true rfl) rfl d_Re_takeQuestion_87 ⟨by decide, by decide⟩ (fun v9 w9 H locs hq hP hD hS => ?_)
        obtain ⟨I13, F14, hw9, q15⟩ := hq
        subst hw9
        rcases q15 with ⟨hok, rfl, rfl, hGn, sK⟩ | ⟨hok, rfl, sK, zK, rfl⟩
        · refine lv_istore (lv' := [(4, _), (3, _), (2, _), (1, _), (0, _)]) hx hb d_Re_takeQuestion_90 hl (by decide) rfl (fun ls hl => ?_)
          refine lv_iload hx hb d_Re_takeQuestion_92 (lv_at hl 0 rfl) ?_
          refine lv_if_ne (tgt := 107) hx hb d_Re_takeQuestion_94 (by decide) (fun c16 => ?_) (fun c16 => ?_)
          · refine lv_iconst (v := 1) hx hb d_Re_takeQuestion_107 (by decide) ?_
            refine lv_topq (y := nI 1) (rfl) ?_
            refine lv_goto (tgt := 112) hx hb d_Re_takeQuestion_108 (by decide) ?_
            exact hret _ _ _ _ _ _ _ hS hP hD d_Re_takeQuestion_112 (nr_z (Or.inr rfl)) (Or.inl ⟨((0, t2 t e1, t2 t (e1 + 2), nI 0, nm1, ([] : List Nat)) : En9), _, _, (by unfold rdQ; rw [hr1]; simp only; rw [if_neg (by omega)]), hok0.mp hok, hok, rfl, (sm_tr (sm_mo sn1 (by decide)) (sm_mo sI6 (by decide))), (((sI6 3 (by decide)).trans z31)).trans (congrArg nI (by rw [fl_add]; simp only [List.append_assoc, List.append_nil, eN, eD])), aI6, (((sI6 7 (by decide)).trans z71)).trans (congrArg nI (by omega)), (sm_tr (sm_mo sG1 (by decide)) (sm_mo sK (by decide))), hGn⟩)
          · exact absurd c16 (by decide)
        · refine lv_istore (lv' := [(4, _), (3, _), (2, _), (1, _), (0, _)]) hx hb d_Re_takeQuestion_90 hl (by decide) rfl (fun ls hl => ?_)
          refine lv_iload hx hb d_Re_takeQuestion_92 (lv_at hl 0 rfl) ?_
          refine lv_if_ne (tgt := 107) hx hb d_Re_takeQuestion_94 (by decide) (fun c17 => ?_) (fun c17 => ?_)
          · exact absurd c17 (by decide)
          · refine lv_aload_n hx hb d_Re_takeQuestion_97 rfl (lv_at hl 4 rfl) ?_
            refine lv_bipush (v := 7) hx hb d_Re_takeQuestion_98 (by decide) ?_
            refine lv_topq (y := nI 7) (rfl) ?_
            refine lv_iload_n hx hb d_Re_takeQuestion_100 rfl (lv_at hl 3 rfl) ?_
            refine mw_cV (ci := 4) (k := 17) C0 (m_Re_fail l D9 cB cI cJ cG a O _ _ (nI 7) _) g_267 g_4 g_264 g_266 gs_Re_fail ⟨by decide +kernel, by decide +kernel, show Option.map (fun d => d.parameters.length) (parseMethodDescriptor y_Re_fail.desc) = some 2 by decide +kernel⟩ ⟨by decide, by decide⟩ rfl rfl hP hD hS hA rfl ww_17 hl.1 (Nat.le_of_ble_eq_true rfl) rfl d_Re_takeQuestion_101 ⟨by decide, by decide⟩ (fun v9 w9 H locs hq hP hD hS => ?_)
            obtain ⟨I18, F19, hw9, q20⟩ := hq
            subst hw9
            obtain ⟨rfl, sI18, zI18, rfl⟩ := q20
            refine lv_if_eq (tgt := 111) hx hb d_Re_takeQuestion_104 (by decide) (fun c21 => ?_) (fun c21 => ?_)
            · refine lv_iconst (v := 0) hx hb d_Re_takeQuestion_111 (by decide) ?_
              refine lv_topq (y := nI 0) (rfl) ?_
              exact hret _ _ _ _ _ _ _ hS hP hD d_Re_takeQuestion_112 (nr_z (Or.inl rfl)) (Or.inr ⟨(fun x e c hx9 => by rw [show rdQ t pos = some (((0, t2 t e1, t2 t (e1 + 2), nI 0, nm1, ([] : List Nat)) : En9), _, _) from (by unfold rdQ; rw [hr1]; simp only; rw [if_neg (by omega)])] at hx9; simp only [Option.some.injEq, Prod.mk.injEq] at hx9; rw [← hx9.1]; cases hb9 : okB es _ with | false => rfl | true => exact absurd (hok0.mpr hb9) hok), rfl, (sm_tr (sm_tr (sm_tr (sm_mo sn1 (by decide)) (sm_mo sI6 (by decide))) (sm_mo sK (by decide))) (sm_mo sI18 (by decide))), (by rw [zI18]; decide), (sm_mo sG1 (by decide)), wB1.1⟩)
            · exact absurd c21 (by decide)
      · have c5 : ¬ (e1 + 4 ≤ t.length) := fun z9 => c5 ((nI_leI (a := e1 + 4) (b := t.length) (by omega) (by omega)).mpr z9)
        refine lv_aload_n hx hb d_Re_takeQuestion_44 rfl (lv_at hl 3 rfl) ?_
        refine lv_iconst (v := 1) hx hb d_Re_takeQuestion_45 (by decide) ?_
        refine lv_topq (y := nI 1) (rfl) ?_
        refine lv_iload_n hx hb d_Re_takeQuestion_46 rfl (lv_at hl 0 rfl) ?_
        refine mw_cV (ci := 4) (k := 17) C0 (m_Re_fail l D9 cB cI cJ cG a O _ _ (nI 1) _) g_267 g_4 g_264 g_266 gs_Re_fail ⟨by decide +kernel, by decide +kernel, show Option.map (fun d => d.parameters.length) (parseMethodDescriptor y_Re_fail.desc) = some 2 by decide +kernel⟩ ⟨by decide, by decide⟩ rfl rfl hP hD hS hA rfl ww_17 hl.1 (Nat.le_of_ble_eq_true rfl) rfl d_Re_takeQuestion_47 ⟨by decide, by decide⟩ (fun v9 w9 H locs hq hP hD hS => ?_)
        obtain ⟨I22, F23, hw9, q24⟩ := hq
        subst hw9
        obtain ⟨rfl, sI22, zI22, rfl⟩ := q24
        exact hret _ _ _ _ _ _ _ hS hP hD d_Re_takeQuestion_50 (nr_z (Or.inl rfl)) (Or.inr ⟨(fun x e c hx9 => by rw [show rdQ t pos = none from (by unfold rdQ; rw [hr1]; simp only; rw [if_pos (by omega)])] at hx9; cases hx9), rfl, (sm_tr (sm_mo sn1 (by decide)) (sm_mo sI22 (by decide))), (by rw [zI22]; decide), (sm_mo sG1 (by decide)), wB1.1⟩)
    · exact absurd c4 (by decide)
  · refine lv_if_ne (tgt := 26) hx hb d_Re_takeQuestion_21 (by decide) (fun c25 => ?_) (fun c25 => ?_)
    · exact absurd c25 (by decide)
    · refine lv_iconst (v := 0) hx hb d_Re_takeQuestion_24 (by decide) ?_
      refine lv_topq (y := nI 0) (rfl) ?_
      exact hret _ _ _ _ _ _ _ hS hP hD d_Re_takeQuestion_25 (nr_z (Or.inl rfl)) (Or.inr ⟨(fun x e c hx9 => by rw [show rdQ t pos = none from (by unfold rdQ; rw [hr1])] at hx9; cases hx9), rfl, (sm_mo sn1 (by decide)), z31, (sm_mo sG1 (by decide)), wB1.1⟩)
set_option maxHeartbeats 4000000 in
set_option maxRecDepth 100000 in
/-- Reader.takeRecord -/
theorem m_Re_takeRecord (l : Launch) (D9 : va_G) (cB cI cJ cG : ClassId) (a : Nat → Nat) (O : Nat → Int64) (I : Nat → Int32) (F : Nat → Nat → Int32) (t : List Nat) (hT2 : I 2 = nI t.length) (htl : t.length ≤ 65536) (hT : BR 0 65536 (F 2) t) (es : List En9) (pos fw : Nat) (hG : GaR F es) (hO : okE es) (hL3 : I 3 = nI (fl es).length) (hps : I 6 = nI pos) (hpb : pos ≤ 65536) (hfw : I 7 = nI fw) (hfb : fw < 90000000) (sc : Nat) (hsc : 1 ≤ sc ∧ sc < 4) : MC l D9 cB cI cJ cG a O y_Re_takeRecord b_Re_takeRecord 10 (some .boolean) 6 [.ref (a 17), .int (nI sc)] I F (fun v I' F' => (∃ x e c, rdR t sc pos = some (x, e, c) ∧ okB es x = true ∧ okE (es ++ [x]) ∧ v = some (.int (nI 1)) ∧ sm [3, 6, 7, 8, 9] I I' ∧ I' 3 = nI (fl (es ++ [x])).length ∧ I' 6 = nI e ∧ I' 7 = nI (fw + c) ∧ sm [4, 5, 6, 7, 8, 9, 10, 12, 13, 14, 15, 16] F F' ∧ GaR F' (es ++ [x])) ∨ ((∀ x e c, rdR t sc pos = some (x, e, c) → okB es x = false) ∧ v = some (.int (nI 0)) ∧ sm [3, 4, 5, 6, 7, 8, 9] I I' ∧ ¬ I' 4 = 0 ∧ sm [4, 5, 6, 7, 8, 9, 10, 12, 13, 14, 15, 16] F F' ∧ sb_Fit (F' 4))) := by
  refine mc_of (by decide) (Nat.le_of_ble_eq_true rfl) ?_
  intro p e s m below meth c ls A0 Q C0 hP hD hA hS hl hret
  obtain ⟨hx, hb, hml, hr, hlocks, hown, hts, hK⟩ := id C0
  have hl : lv_has ls 10 [(0, .ref (a 17)), (1, .int (nI sc))] := hl
  have k2 := hO.2.2.1
  have hBL := hG.2.2
  refine lv_aload_n hx hb d_Re_takeRecord_0 rfl (lv_at hl 0 rfl) ?_
  refine va_get (D := D9) (ci := 4) (C := R_Re) (T := F_Re) (N := 8) hx hb hts i_Re hown hK hP 17 ww_17 rfl 4 (by decide) (hts _ g_125) (fun _ h9 => h9) rfl d_Re_takeRecord_1 ?_
  refine lv_topq (y := nI pos) (hps) ?_
  refine lv_istore_n (lv' := [(2, _), (0, _), (1, _)]) hx hb d_Re_takeRecord_4 rfl hl (by decide) rfl (fun ls hl => ?_)
  refine lv_aload_n hx hb d_Re_takeRecord_5 rfl (lv_at hl 1 rfl) ?_
  refine va_get (D := D9) (ci := 4) (C := R_Re) (T := F_Re) (N := 8) hx hb hts i_Re hown hK hP 17 ww_17 rfl 1 (by decide) (hts _ g_121) (fun _ h9 => h9) rfl d_Re_takeRecord_6 ?_
  refine va_getN (D := D9) (ci := 2) (C := R_Ga) (T := F_Ga) (N := 11) hx hb hts i_Ga hown hK hP 19 ww_19 rfl 0 (by decide) (hts _ g_60) (fun _ h9 => h9) rfl d_Re_takeRecord_9 ?_
  refine va_getN (D := D9) (ci := 0) (C := R_By) (T := F_By) (N := 2) hx hb hts i_By hown hK hP 3 ww_3 rfl 1 (by decide) (hts _ g_39) (fun _ h9 => h9) rfl d_Re_takeRecord_12 ?_
  refine lv_topq (y := nI ((fl es).length)) (hL3) ?_
  refine lv_istore_n (lv' := [(3, _), (2, _), (0, _), (1, _)]) hx hb d_Re_takeRecord_15 rfl hl (by decide) rfl (fun ls hl => ?_)
  refine lv_aload_n hx hb d_Re_takeRecord_16 rfl (lv_at hl 2 rfl) ?_
  refine lv_iload_n hx hb d_Re_takeRecord_17 rfl (lv_at hl 1 rfl) ?_
  refine mw_cV (ci := 4) (k := 17) C0 (m_Re_takeOwner l D9 cB cI cJ cG a O _ _ t hT2 htl hT (fl es) pos fw hL3 (by omega) hBL (by omega) hfw) g_275 g_4 g_272 g_274 gs_Re_takeOwner ⟨by decide +kernel, by decide +kernel, show Option.map (fun d => d.parameters.length) (parseMethodDescriptor y_Re_takeOwner.desc) = some 1 by decide +kernel⟩ ⟨by decide, by decide⟩ rfl rfl hP hD hS hA rfl ww_17 hl.1 (Nat.le_of_ble_eq_true rfl) rfl d_Re_takeRecord_18 ⟨by decide, by decide⟩ (fun v9 w9 H locs hq hP hD hS => ?_)
  obtain ⟨I1, F2, hw9, q3⟩ := hq
  subst hw9
  rcases q3 with ⟨nm1, e1, c_1, hr1, rfl, sn1, z31, z61, z71, z81, sG1, wB1⟩ | ⟨hr1, rfl, sn1, z31, sG1, wB1⟩
  · have hbd1 := rn_bd hr1 (by decide)
    have hln1 : (fl es ++ nm1).length = (fl es).length + nm1.length := List.length_append
    refine lv_if_ne (tgt := 26) hx hb d_Re_takeRecord_21 (by decide) (fun c4 => ?_) (fun c4 => ?_)
    · refine lv_aload_n hx hb d_Re_takeRecord_26 rfl (lv_at hl 2 rfl) ?_
      refine va_get (D := D9) (ci := 4) (C := R_Re) (T := F_Re) (N := 8) hx hb hts i_Re hown hK hP 17 ww_17 rfl 4 (by decide) (hts _ g_125) (fun _ h9 => h9) rfl d_Re_takeRecord_27 ?_
      refine lv_topq (y := nI e1) (z61) ?_
      refine lv_istore (lv' := [(4, _), (3, _), (2, _), (0, _), (1, _)]) hx hb d_Re_takeRecord_30 hl (by decide) rfl (fun ls hl => ?_)
      refine lv_iload hx hb d_Re_takeRecord_32 (lv_at hl 0 rfl) ?_
      refine lv_bipush (v := 10) hx hb d_Re_takeRecord_34 (by decide) ?_
      refine lv_topq (y := nI 10) (rfl) ?_
      refine lv_iadd hx hb d_Re_takeRecord_36 ?_
      refine lv_topq (y := nI (e1 + 10)) (nI_add _ _) ?_
      refine lv_istore (lv' := [(5, _), (4, _), (3, _), (2, _), (0, _), (1, _)]) hx hb d_Re_takeRecord_37 hl (by decide) rfl (fun ls hl => ?_)
      refine lv_iload hx hb d_Re_takeRecord_39 (lv_at hl 0 rfl) ?_
      refine lv_aload_n hx hb d_Re_takeRecord_41 rfl (lv_at hl 4 rfl) ?_
      refine va_get (D := D9) (ci := 4) (C := R_Re) (T := F_Re) (N := 8) hx hb hts i_Re hown hK hP 17 ww_17 rfl 0 (by decide) (hts _ g_120) (fun _ h9 => h9) rfl d_Re_takeRecord_42 ?_
      refine va_getN (D := D9) (ci := 0) (C := R_By) (T := F_By) (N := 2) hx hb hts i_By hown hK hP 1 ww_1 rfl 1 (by decide) (hts _ g_39) (fun _ h9 => h9) rfl d_Re_takeRecord_45 ?_
      refine lv_topq (y := nI t.length) (((sn1 2 (by decide)).trans hT2)) ?_
      refine lv_icmp_le (tgt := 59) hx hb d_Re_takeRecord_48 (by decide) (fun c5 => ?_) (fun c5 => ?_)
      · have c5 : e1 + 10 ≤ t.length := (nI_leI (a := e1 + 10) (b := t.length) (by omega) (by omega)).mp c5
        have hsz9 : t2 t (e1 + 8) < 65536 := t2_lt hT htl (by omega)
        refine lv_iload hx hb d_Re_takeRecord_59 (lv_at hl 0 rfl) ?_
        refine lv_aload_n hx hb d_Re_takeRecord_61 rfl (lv_at hl 4 rfl) ?_
        refine va_get (D := D9) (ci := 4) (C := R_Re) (T := F_Re) (N := 8) hx hb hts i_Re hown hK hP 17 ww_17 rfl 0 (by decide) (hts _ g_120) (fun _ h9 => h9) rfl d_Re_takeRecord_62 ?_
        refine lv_iload hx hb d_Re_takeRecord_65 (lv_at hl 1 rfl) ?_
        refine lv_bipush (v := 8) hx hb d_Re_takeRecord_67 (by decide) ?_
        refine lv_topq (y := nI 8) (rfl) ?_
        refine lv_iadd hx hb d_Re_takeRecord_69 ?_
        refine lv_topq (y := nI (e1 + 8)) (nI_add _ _) ?_
        refine mw_cVN (ci := 0) (k := 1) C0 (m_By_twoAtL_tp l D9 cB cI cJ cG a O _ _ t (e1 + 8) (BR_eq hT (sG1 2 (by decide))) htl (by omega)) g_255 g_2 g_252 g_254 gs_By_twoAt ⟨by decide +kernel, by decide +kernel, show Option.map (fun d => d.parameters.length) (parseMethodDescriptor y_By_twoAt.desc) = some 1 by decide +kernel⟩ ⟨by decide, by decide⟩ rfl rfl hP hD hS hA rfl ww_1 hl.1 (Nat.le_of_ble_eq_true rfl) rfl d_Re_takeRecord_70 ⟨by decide, by decide⟩ (fun v9 w9 H locs hq hP hD hS => ?_)
        obtain ⟨I6, F7, hw9, q8⟩ := hq
        subst hw9
        obtain ⟨rfl, rfl, rfl⟩ := q8
        refine lv_iadd hx hb d_Re_takeRecord_73 ?_
        refine lv_topq (y := nI (e1 + 10 + (t2 t (e1 + 8)))) (nI_add _ _) ?_
        refine lv_istore (lv' := [(6, _), (5, _), (4, _), (3, _), (2, _), (0, _), (1, _)]) hx hb d_Re_takeRecord_74 hl (by decide) rfl (fun ls hl => ?_)
        refine lv_iload hx hb d_Re_takeRecord_76 (lv_at hl 0 rfl) ?_
        refine lv_aload_n hx hb d_Re_takeRecord_78 rfl (lv_at hl 5 rfl) ?_
        refine va_get (D := D9) (ci := 4) (C := R_Re) (T := F_Re) (N := 8) hx hb hts i_Re hown hK hP 17 ww_17 rfl 0 (by decide) (hts _ g_120) (fun _ h9 => h9) rfl d_Re_takeRecord_79 ?_
        refine va_getN (D := D9) (ci := 0) (C := R_By) (T := F_By) (N := 2) hx hb hts i_By hown hK hP 1 ww_1 rfl 1 (by decide) (hts _ g_39) (fun _ h9 => h9) rfl d_Re_takeRecord_82 ?_
        refine lv_topq (y := nI t.length) (((sn1 2 (by decide)).trans hT2)) ?_
        refine lv_icmp_le (tgt := 96) hx hb d_Re_takeRecord_85 (by decide) (fun c9 => ?_) (fun c9 => ?_)
        · have c9 : e1 + 10 + (t2 t (e1 + 8)) ≤ t.length := (nI_leI (a := e1 + 10 + (t2 t (e1 + 8))) (b := t.length) (by omega) (by omega)).mp c9
          have hty9 : t2 t e1 < 65536 := t2_lt hT htl (by omega)
          refine lv_aload_n hx hb d_Re_takeRecord_96 rfl (lv_at hl 5 rfl) ?_
          refine va_get (D := D9) (ci := 4) (C := R_Re) (T := F_Re) (N := 8) hx hb hts i_Re hown hK hP 17 ww_17 rfl 0 (by decide) (hts _ g_120) (fun _ h9 => h9) rfl d_Re_takeRecord_97 ?_
          refine lv_iload hx hb d_Re_takeRecord_100 (lv_at hl 2 rfl) ?_
          refine mw_cVN (ci := 0) (k := 1) C0 (m_By_twoAtL_tp l D9 cB cI cJ cG a O _ _ t e1 (BR_eq hT (sG1 2 (by decide))) htl (by omega)) g_255 g_2 g_252 g_254 gs_By_twoAt ⟨by decide +kernel, by decide +kernel, show Option.map (fun d => d.parameters.length) (parseMethodDescriptor y_By_twoAt.desc) = some 1 by decide +kernel⟩ ⟨by decide, by decide⟩ rfl rfl hP hD hS hA rfl ww_1 hl.1 (Nat.le_of_ble_eq_true rfl) rfl d_Re_takeRecord_102 ⟨by decide, by decide⟩ (fun v9 w9 H locs hq hP hD hS => ?_)
          obtain ⟨I10, F11, hw9, q12⟩ := hq
          subst hw9
          obtain ⟨rfl, rfl, rfl⟩ := q12
          refine lv_istore (lv' := [(7, _), (6, _), (5, _), (4, _), (3, _), (2, _), (0, _), (1, _)]) hx hb d_Re_takeRecord_105 hl (by decide) rfl (fun ls hl => ?_)
          refine lv_aload_n hx hb d_Re_takeRecord_107 rfl (lv_at hl 6 rfl) ?_
          refine lv_iload hx hb d_Re_takeRecord_108 (lv_at hl 0 rfl) ?_
          refine lv_iload hx hb d_Re_takeRecord_110 (lv_at hl 2 rfl) ?_
          refine lv_iload hx hb d_Re_takeRecord_112 (lv_at hl 1 rfl) ?_
          refine mw_cV (ci := 4) (k := 17) C0 (m_Re_takeData l D9 cB cI cJ cG a O _ _ t ((sn1 2 (by decide)).trans hT2) htl (BR_eq hT (sG1 2 (by decide))) (fl es ++ nm1) (t2 t e1) (e1 + 10) (e1 + 10 + t2 t (e1 + 8)) (fw + c_1) z31 (by omega) wB1 hty9 (by omega) (by omega) z71 (by omega) nm1.length z81 (by omega)) g_327 g_4 g_324 g_326 gs_Re_takeData ⟨by decide +kernel, by decide +kernel, show Option.map (fun d => d.parameters.length) (parseMethodDescriptor y_Re_takeData.desc) = some 3 by decide +kernel⟩ ⟨by decide, by decide⟩ rfl rfl hP hD hS hA rfl ww_17 hl.1 (Nat.le_of_ble_eq_true rfl) rfl d_Re_takeRecord_114 ⟨by decide, by decide⟩ (fun v9 w9 H locs hq hP hD hS => ?_)
          obtain ⟨I13, F14, hw9, q15⟩ := hq
          subst hw9
          rcases q15 with ⟨da, e_a, hda, rfl, tda, x3a, x7a, xFa, xBa⟩ | ⟨hda, rfl, tda, x3a, xFa, xBa⟩
          · have hbea := rdD_bd hda
            have hcea := rdD_c hda
            have hlxa : (fl es ++ nm1 ++ da).length = (fl es ++ nm1).length + da.length := List.length_append
            refine lv_if_ne (tgt := 122) hx hb d_Re_takeRecord_117 (by decide) (fun c16 => ?_) (fun c16 => ?_)
            · refine lv_aload_n hx hb d_Re_takeRecord_122 rfl (lv_at hl 6 rfl) ?_
              refine lv_iload hx hb d_Re_takeRecord_123 (lv_at hl 1 rfl) ?_
              refine va_put (D := D9) (ty := .int) (ci := 4) (C := R_Re) (T := F_Re) (N := 8) hx hb hts i_Re t_Re t_Re_ok n_Re hown hK hP hD hS 17 ww_17 rfl 4 (by decide) (hts _ g_125) (fun _ h9 => h9) rfl (by decide +kernel) rfl rfl (Nat.le_of_ble_eq_true rfl) d_Re_takeRecord_125 (fun H locs hP hD hS => ?_)
              obtain ⟨I17, aI17, sI17, hP, hD⟩ := fx (P := fun z => va_P D9 cls9 (WW a cB cI cJ cG z _ O) H ∧ va_D A0 (WW a cB cI cJ cG z _ O)) ⟨wp_6 hP, wd_6 hD⟩
              refine lv_aload_n hx hb d_Re_takeRecord_128 rfl (lv_at hl 6 rfl) ?_
              refine va_get (D := D9) (ci := 4) (C := R_Re) (T := F_Re) (N := 8) hx hb hts i_Re hown hK hP 17 ww_17 rfl 0 (by decide) (hts _ g_120) (fun _ h9 => h9) rfl d_Re_takeRecord_129 ?_
              refine lv_iload hx hb d_Re_takeRecord_132 (lv_at hl 3 rfl) ?_
              refine lv_iconst (v := 2) hx hb d_Re_takeRecord_134 (by decide) ?_
              refine lv_topq (y := nI 2) (rfl) ?_
              refine lv_iadd hx hb d_Re_takeRecord_135 ?_
              refine lv_topq (y := nI (e1 + 2)) (nI_add _ _) ?_
              refine mw_cVN (ci := 0) (k := 1) C0 (m_By_twoAtL_tp l D9 cB cI cJ cG a O _ _ t (e1 + 2) (BR_eq hT ((xFa 2 (by decide)).trans (sG1 2 (by decide)))) htl (by omega)) g_255 g_2 g_252 g_254 gs_By_twoAt ⟨by decide +kernel, by decide +kernel, show Option.map (fun d => d.parameters.length) (parseMethodDescriptor y_By_twoAt.desc) = some 1 by decide +kernel⟩ ⟨by decide, by decide⟩ rfl rfl hP hD hS hA rfl ww_1 hl.1 (Nat.le_of_ble_eq_true rfl) rfl d_Re_takeRecord_136 ⟨by decide, by decide⟩ (fun v9 w9 H locs hq hP hD hS => ?_)
              obtain ⟨I18, F19, hw9, q20⟩ := hq
              subst hw9
              obtain ⟨rfl, rfl, rfl⟩ := q20
              refine lv_istore (lv' := [(8, _), (7, _), (6, _), (5, _), (4, _), (3, _), (2, _), (0, _), (1, _)]) hx hb d_Re_takeRecord_139 hl (by decide) rfl (fun ls hl => ?_)
              refine lv_aload_n hx hb d_Re_takeRecord_141 rfl (lv_at hl 7 rfl) ?_
              refine va_get (D := D9) (ci := 4) (C := R_Re) (T := F_Re) (N := 8) hx hb hts i_Re hown hK hP 17 ww_17 rfl 1 (by decide) (hts _ g_121) (fun _ h9 => h9) rfl d_Re_takeRecord_142 ?_
              refine lv_iload_n hx hb d_Re_takeRecord_145 rfl (lv_at hl 8 rfl) ?_
              refine lv_iload_n hx hb d_Re_takeRecord_146 rfl (lv_at hl 5 rfl) ?_
              refine lv_aload_n hx hb d_Re_takeRecord_147 rfl (lv_at hl 7 rfl) ?_
              refine va_get (D := D9) (ci := 4) (C := R_Re) (T := F_Re) (N := 8) hx hb hts i_Re hown hK hP 17 ww_17 rfl 6 (by decide) (hts _ g_128) (fun _ h9 => h9) rfl d_Re_takeRecord_148 ?_
              refine lv_topq (y := nI nm1.length) (((sI17 8 (by decide)).trans ((tda 8 (by decide)).trans z81))) ?_
              refine lv_iload hx hb d_Re_takeRecord_151 (lv_at hl 1 rfl) ?_
              refine lv_iload hx hb d_Re_takeRecord_153 (lv_at hl 0 rfl) ?_
              refine lv_aload_n hx hb d_Re_takeRecord_155 rfl (lv_at hl 7 rfl) ?_
              refine va_get (D := D9) (ci := 4) (C := R_Re) (T := F_Re) (N := 8) hx hb hts i_Re hown hK hP 17 ww_17 rfl 0 (by decide) (hts _ g_120) (fun _ h9 => h9) rfl d_Re_takeRecord_156 ?_
              refine lv_iload hx hb d_Re_takeRecord_159 (lv_at hl 4 rfl) ?_
              refine lv_iconst (v := 4) hx hb d_Re_takeRecord_161 (by decide) ?_
              refine lv_topq (y := nI 4) (rfl) ?_
              refine lv_iadd hx hb d_Re_takeRecord_162 ?_
              refine lv_topq (y := nI (e1 + 4)) (nI_add _ _) ?_
              refine mw_cVN (ci := 0) (k := 1) C0 (m_By_fourAtL_tp l D9 cB cI cJ cG a O _ _ t (e1 + 4) (BR_eq hT ((xFa 2 (by decide)).trans (sG1 2 (by decide)))) htl (by omega)) g_359 g_2 g_356 g_358 gs_By_fourAt ⟨by decide +kernel, by decide +kernel, show Option.map (fun d => d.parameters.length) (parseMethodDescriptor y_By_fourAt.desc) = some 1 by decide +kernel⟩ ⟨by decide, by decide⟩ rfl rfl hP hD hS hA rfl ww_1 hl.1 (Nat.le_of_ble_eq_true rfl) rfl d_Re_takeRecord_163 ⟨by decide, by decide⟩ (fun v9 w9 H locs hq hP hD hS => ?_)
              obtain ⟨I21, F22, hw9, q23⟩ := hq
              subst hw9
              obtain ⟨rfl, rfl, rfl⟩ := q23
              have hBk : BR 0 65536 (F14 4) (fl es ++ (nm1 ++ da)) := by simpa only [List.append_assoc, List.append_nil] using xBa
              have hGk : GaR F14 es := GaR_sm (M := [4]) hG (sm_tr (sm_mo sG1 (by decide)) (sm_mo xFa (by decide))) (by decide) (BR_pre hBk) hO
              have hxS : eS ((sc, t2 t e1, t2 t (e1 + 2), i4 t (e1 + 4), nm1, da) : En9) < 4 := by show sc < 4; omega
              have hxT : eT ((sc, t2 t e1, t2 t (e1 + 2), i4 t (e1 + 4), nm1, da) : En9) < 65536 := t2_lt (i := e1) hT htl (by omega)
              have hxK : eK ((sc, t2 t e1, t2 t (e1 + 2), i4 t (e1 + 4), nm1, da) : En9) < 65536 := t2_lt (i := (e1 + 2)) hT htl (by omega)
              have hok0 := okB_iff hO hxS hxT hxK
              have hLk : I17 3 = nI ((fl es).length + (nm1.length + da.length)) := (((sI17 3 (by decide)).trans x3a)).trans (congrArg nI (by simp only [List.length_append, List.length_nil]; omega))
              refine mw_cVN (ci := 2) (k := 19) C0 (m_Ga_keep l D9 cB cI cJ cG a O _ _ es ((sc, t2 t e1, t2 t (e1 + 2), i4 t (e1 + 4), nm1, da) : En9) hxS hxT hxK hGk hO hBk hLk (by show nm1.length + da.length < _; first | omega | (simp only [List.length_nil]; omega))) g_310 g_3 g_307 g_309 gs_Ga_keep ⟨by decide +kernel, by decide +kernel, show Option.map (fun d => d.parameters.length) (parseMethodDescriptor y_Ga_keep.desc) = some 6 by decide +kernel⟩ ⟨by decide, by decide⟩ rfl rfl hP hD hS hA rfl ww_19 hl.1 (Nat.le_of_ble_eq_true rfl) rfl d_Re_takeRecord_166 ⟨by decide, by decide⟩ (fun v9 w9 H locs hq hP hD hS => ?_)
              obtain ⟨I24, F25, hw9, q26⟩ := hq
              subst hw9
              rcases q26 with ⟨hok, rfl, rfl, hGn, sK⟩ | ⟨hok, rfl, sK, zK, rfl⟩
              · refine lv_istore (lv' := [(9, _), (8, _), (7, _), (6, _), (5, _), (4, _), (3, _), (2, _), (0, _), (1, _)]) hx hb d_Re_takeRecord_169 hl (by decide) rfl (fun ls hl => ?_)
                refine lv_iload hx hb d_Re_takeRecord_171 (lv_at hl 0 rfl) ?_
                refine lv_if_ne (tgt := 186) hx hb d_Re_takeRecord_173 (by decide) (fun c27 => ?_) (fun c27 => ?_)
                · refine lv_iconst (v := 1) hx hb d_Re_takeRecord_186 (by decide) ?_
                  refine lv_topq (y := nI 1) (rfl) ?_
                  refine lv_goto (tgt := 191) hx hb d_Re_takeRecord_187 (by decide) ?_
                  exact hret _ _ _ _ _ _ _ hS hP hD d_Re_takeRecord_191 (nr_z (Or.inr rfl)) (Or.inl ⟨((sc, t2 t e1, t2 t (e1 + 2), i4 t (e1 + 4), nm1, da) : En9), _, _, (by unfold rdR; rw [hr1]; simp only; rw [if_neg (by omega), if_neg (by omega), hda]), hok0.mp hok, hok, rfl, (sm_tr (sm_tr (sm_mo sn1 (by decide)) (sm_mo tda (by decide))) (sm_mo sI17 (by decide))), (((sI17 3 (by decide)).trans x3a)).trans (congrArg nI (by rw [fl_add]; simp only [List.append_assoc, List.append_nil, eN, eD])), aI17, (((sI17 7 (by decide)).trans x7a)).trans (congrArg nI (by omega)), (sm_tr (sm_tr (sm_mo sG1 (by decide)) (sm_mo xFa (by decide))) (sm_mo sK (by decide))), hGn⟩)
                · exact absurd c27 (by decide)
              · refine lv_istore (lv' := [(9, _), (8, _), (7, _), (6, _), (5, _), (4, _), (3, _), (2, _), (0, _), (1, _)]) hx hb d_Re_takeRecord_169 hl (by decide) rfl (fun ls hl => ?_)
                refine lv_iload hx hb d_Re_takeRecord_171 (lv_at hl 0 rfl) ?_
                refine lv_if_ne (tgt := 186) hx hb d_Re_takeRecord_173 (by decide) (fun c28 => ?_) (fun c28 => ?_)
                · exact absurd c28 (by decide)
                · refine lv_aload_n hx hb d_Re_takeRecord_176 rfl (lv_at hl 8 rfl) ?_
                  refine lv_bipush (v := 7) hx hb d_Re_takeRecord_177 (by decide) ?_
                  refine lv_topq (y := nI 7) (rfl) ?_
                  refine lv_iload_n hx hb d_Re_takeRecord_179 rfl (lv_at hl 7 rfl) ?_
                  refine mw_cV (ci := 4) (k := 17) C0 (m_Re_fail l D9 cB cI cJ cG a O _ _ (nI 7) _) g_267 g_4 g_264 g_266 gs_Re_fail ⟨by decide +kernel, by decide +kernel, show Option.map (fun d => d.parameters.length) (parseMethodDescriptor y_Re_fail.desc) = some 2 by decide +kernel⟩ ⟨by decide, by decide⟩ rfl rfl hP hD hS hA rfl ww_17 hl.1 (Nat.le_of_ble_eq_true rfl) rfl d_Re_takeRecord_180 ⟨by decide, by decide⟩ (fun v9 w9 H locs hq hP hD hS => ?_)
                  obtain ⟨I29, F30, hw9, q31⟩ := hq
                  subst hw9
                  obtain ⟨rfl, sI29, zI29, rfl⟩ := q31
                  refine lv_if_eq (tgt := 190) hx hb d_Re_takeRecord_183 (by decide) (fun c32 => ?_) (fun c32 => ?_)
                  · refine lv_iconst (v := 0) hx hb d_Re_takeRecord_190 (by decide) ?_
                    refine lv_topq (y := nI 0) (rfl) ?_
                    exact hret _ _ _ _ _ _ _ hS hP hD d_Re_takeRecord_191 (nr_z (Or.inl rfl)) (Or.inr ⟨(fun x e c hx9 => by rw [show rdR t sc pos = some (((sc, t2 t e1, t2 t (e1 + 2), i4 t (e1 + 4), nm1, da) : En9), _, _) from (by unfold rdR; rw [hr1]; simp only; rw [if_neg (by omega), if_neg (by omega), hda])] at hx9; simp only [Option.some.injEq, Prod.mk.injEq] at hx9; rw [← hx9.1]; cases hb9 : okB es _ with | false => rfl | true => exact absurd (hok0.mpr hb9) hok), rfl, (sm_tr (sm_tr (sm_tr (sm_tr (sm_mo sn1 (by decide)) (sm_mo tda (by decide))) (sm_mo sI17 (by decide))) (sm_mo sK (by decide))) (sm_mo sI29 (by decide))), (by rw [zI29]; decide), (sm_tr (sm_mo sG1 (by decide)) (sm_mo xFa (by decide))), xBa.1⟩)
                  · exact absurd c32 (by decide)
            · exact absurd c16 (by decide)
          · refine lv_if_ne (tgt := 122) hx hb d_Re_takeRecord_117 (by decide) (fun c33 => ?_) (fun c33 => ?_)
            · exact absurd c33 (by decide)
            · refine lv_iconst (v := 0) hx hb d_Re_takeRecord_120 (by decide) ?_
              refine lv_topq (y := nI 0) (rfl) ?_
              exact hret _ _ _ _ _ _ _ hS hP hD d_Re_takeRecord_121 (nr_z (Or.inl rfl)) (Or.inr ⟨(fun x e c hx9 => by rw [show rdR t sc pos = none from (by unfold rdR; rw [hr1]; simp only; rw [if_neg (by omega), if_neg (by omega), hda])] at hx9; cases hx9), rfl, (sm_tr (sm_mo sn1 (by decide)) (sm_mo tda (by decide))), x3a, (sm_tr (sm_mo sG1 (by decide)) (sm_mo xFa (by decide))), xBa.1⟩)
        · have c9 : ¬ (e1 + 10 + (t2 t (e1 + 8)) ≤ t.length) := fun z9 => c9 ((nI_leI (a := e1 + 10 + (t2 t (e1 + 8))) (b := t.length) (by omega) (by omega)).mpr z9)
          refine lv_aload_n hx hb d_Re_takeRecord_88 rfl (lv_at hl 5 rfl) ?_
          refine lv_iconst (v := 1) hx hb d_Re_takeRecord_89 (by decide) ?_
          refine lv_topq (y := nI 1) (rfl) ?_
          refine lv_iload hx hb d_Re_takeRecord_90 (lv_at hl 1 rfl) ?_
          refine mw_cV (ci := 4) (k := 17) C0 (m_Re_fail l D9 cB cI cJ cG a O _ _ (nI 1) _) g_267 g_4 g_264 g_266 gs_Re_fail ⟨by decide +kernel, by decide +kernel, show Option.map (fun d => d.parameters.length) (parseMethodDescriptor y_Re_fail.desc) = some 2 by decide +kernel⟩ ⟨by decide, by decide⟩ rfl rfl hP hD hS hA rfl ww_17 hl.1 (Nat.le_of_ble_eq_true rfl) rfl d_Re_takeRecord_92 ⟨by decide, by decide⟩ (fun v9 w9 H locs hq hP hD hS => ?_)
          obtain ⟨I34, F35, hw9, q36⟩ := hq
          subst hw9
          obtain ⟨rfl, sI34, zI34, rfl⟩ := q36
          exact hret _ _ _ _ _ _ _ hS hP hD d_Re_takeRecord_95 (nr_z (Or.inl rfl)) (Or.inr ⟨(fun x e c hx9 => by rw [show rdR t sc pos = none from (by unfold rdR; rw [hr1]; simp only; rw [if_neg (by omega), if_pos (by omega)])] at hx9; cases hx9), rfl, (sm_tr (sm_mo sn1 (by decide)) (sm_mo sI34 (by decide))), (by rw [zI34]; decide), (sm_mo sG1 (by decide)), wB1.1⟩)
      · have c5 : ¬ (e1 + 10 ≤ t.length) := fun z9 => c5 ((nI_leI (a := e1 + 10) (b := t.length) (by omega) (by omega)).mpr z9)
        refine lv_aload_n hx hb d_Re_takeRecord_51 rfl (lv_at hl 4 rfl) ?_
        refine lv_iconst (v := 1) hx hb d_Re_takeRecord_52 (by decide) ?_
        refine lv_topq (y := nI 1) (rfl) ?_
        refine lv_iload hx hb d_Re_takeRecord_53 (lv_at hl 1 rfl) ?_
        refine mw_cV (ci := 4) (k := 17) C0 (m_Re_fail l D9 cB cI cJ cG a O _ _ (nI 1) _) g_267 g_4 g_264 g_266 gs_Re_fail ⟨by decide +kernel, by decide +kernel, show Option.map (fun d => d.parameters.length) (parseMethodDescriptor y_Re_fail.desc) = some 2 by decide +kernel⟩ ⟨by decide, by decide⟩ rfl rfl hP hD hS hA rfl ww_17 hl.1 (Nat.le_of_ble_eq_true rfl) rfl d_Re_takeRecord_55 ⟨by decide, by decide⟩ (fun v9 w9 H locs hq hP hD hS => ?_)
        obtain ⟨I37, F38, hw9, q39⟩ := hq
        subst hw9
        obtain ⟨rfl, sI37, zI37, rfl⟩ := q39
        exact hret _ _ _ _ _ _ _ hS hP hD d_Re_takeRecord_58 (nr_z (Or.inl rfl)) (Or.inr ⟨(fun x e c hx9 => by rw [show rdR t sc pos = none from (by unfold rdR; rw [hr1]; simp only; rw [if_pos (by omega)])] at hx9; cases hx9), rfl, (sm_tr (sm_mo sn1 (by decide)) (sm_mo sI37 (by decide))), (by rw [zI37]; decide), (sm_mo sG1 (by decide)), wB1.1⟩)
    · exact absurd c4 (by decide)
  · refine lv_if_ne (tgt := 26) hx hb d_Re_takeRecord_21 (by decide) (fun c40 => ?_) (fun c40 => ?_)
    · exact absurd c40 (by decide)
    · refine lv_iconst (v := 0) hx hb d_Re_takeRecord_24 (by decide) ?_
      refine lv_topq (y := nI 0) (rfl) ?_
      exact hret _ _ _ _ _ _ _ hS hP hD d_Re_takeRecord_25 (nr_z (Or.inl rfl)) (Or.inr ⟨(fun x e c hx9 => by rw [show rdR t sc pos = none from (by unfold rdR; rw [hr1])] at hx9; cases hx9), rfl, (sm_mo sn1 (by decide)), z31, (sm_mo sG1 (by decide)), wB1.1⟩)
end
