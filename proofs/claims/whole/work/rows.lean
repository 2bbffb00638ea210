section
-- ===== PART A: goes FIRST, ahead of the names: the tables' words, and 'selects' of the private methods out of them =====
/-- a private method of a class that the tables say can be made, by its rows of tables_1 -/
def lw_okq (q : MethodName × Nat) : Prop := (q.1.cls ≠ "java/lang/invoke/MethodHandle" ∧ q.1.cls ≠ "java/lang/invoke/VarHandle") ∧ Cond.instantiable q.1.cls q.2 ∈ tables_1 ∧ Cond.privateMethod q.1 ∈ tables_1 ∧ Cond.instanceMethod q.1 ∈ tables_1
theorem lw_p0 : lw_okq (⟨"AreaOrders", "failed", "(I)I"⟩, 10) := ⟨⟨by decide +kernel, by decide +kernel⟩, List.mem_of_getElem? (i := 10) (by decide +kernel), List.mem_of_getElem? (i := 181) (by decide +kernel), List.mem_of_getElem? (i := 182) (by decide +kernel)⟩
theorem lw_p1 : lw_okq (⟨"AreaOrders$Reader", "takesCode", "(I)Z"⟩, 5) := ⟨⟨by decide +kernel, by decide +kernel⟩, List.mem_of_getElem? (i := 82) (by decide +kernel), List.mem_of_getElem? (i := 192) (by decide +kernel), List.mem_of_getElem? (i := 193) (by decide +kernel)⟩
theorem lw_p2 : lw_okq (⟨"AreaOrders$Reader", "takesAreas", "()Z"⟩, 5) := ⟨⟨by decide +kernel, by decide +kernel⟩, List.mem_of_getElem? (i := 82) (by decide +kernel), List.mem_of_getElem? (i := 196) (by decide +kernel), List.mem_of_getElem? (i := 197) (by decide +kernel)⟩
theorem lw_p3 : lw_okq (⟨"AreaOrders$Reader", "takesArea", "(I)Z"⟩, 5) := ⟨⟨by decide +kernel, by decide +kernel⟩, List.mem_of_getElem? (i := 82) (by decide +kernel), List.mem_of_getElem? (i := 200) (by decide +kernel), List.mem_of_getElem? (i := 201) (by decide +kernel)⟩
theorem lw_p4 : lw_okq (⟨"AreaOrders$Reader", "takeKind", "()I"⟩, 5) := ⟨⟨by decide +kernel, by decide +kernel⟩, List.mem_of_getElem? (i := 82) (by decide +kernel), List.mem_of_getElem? (i := 204) (by decide +kernel), List.mem_of_getElem? (i := 205) (by decide +kernel)⟩
theorem lw_p5 : lw_okq (⟨"AreaOrders$Reader", "takeDigit", "(II)I"⟩, 5) := ⟨⟨by decide +kernel, by decide +kernel⟩, List.mem_of_getElem? (i := 82) (by decide +kernel), List.mem_of_getElem? (i := 208) (by decide +kernel), List.mem_of_getElem? (i := 209) (by decide +kernel)⟩
theorem lw_p6 : lw_okq (⟨"AreaOrders$Reader", "takesOrder", "(I)Z"⟩, 5) := ⟨⟨by decide +kernel, by decide +kernel⟩, List.mem_of_getElem? (i := 82) (by decide +kernel), List.mem_of_getElem? (i := 212) (by decide +kernel), List.mem_of_getElem? (i := 213) (by decide +kernel)⟩
theorem lw_p7 : lw_okq (⟨"AreaOrders$Plan", "findPlaces", "()V"⟩, 12) := ⟨⟨by decide +kernel, by decide +kernel⟩, List.mem_of_getElem? (i := 18) (by decide +kernel), List.mem_of_getElem? (i := 225) (by decide +kernel), List.mem_of_getElem? (i := 226) (by decide +kernel)⟩
theorem lw_p8 : lw_okq (⟨"AreaOrders$Plan", "heightOf", "(I)I"⟩, 12) := ⟨⟨by decide +kernel, by decide +kernel⟩, List.mem_of_getElem? (i := 18) (by decide +kernel), List.mem_of_getElem? (i := 229) (by decide +kernel), List.mem_of_getElem? (i := 230) (by decide +kernel)⟩
theorem lw_p9 : lw_okq (⟨"AreaOrders$Plan", "sizeOf", "(I)I"⟩, 12) := ⟨⟨by decide +kernel, by decide +kernel⟩, List.mem_of_getElem? (i := 18) (by decide +kernel), List.mem_of_getElem? (i := 233) (by decide +kernel), List.mem_of_getElem? (i := 234) (by decide +kernel)⟩
theorem lw_p10 : lw_okq (⟨"AreaOrders$Plan", "begin", "(II)V"⟩, 12) := ⟨⟨by decide +kernel, by decide +kernel⟩, List.mem_of_getElem? (i := 18) (by decide +kernel), List.mem_of_getElem? (i := 237) (by decide +kernel), List.mem_of_getElem? (i := 238) (by decide +kernel)⟩
theorem lw_p11 : lw_okq (⟨"AreaOrders$Plan", "isLeft", "(II)Z"⟩, 12) := ⟨⟨by decide +kernel, by decide +kernel⟩, List.mem_of_getElem? (i := 18) (by decide +kernel), List.mem_of_getElem? (i := 256) (by decide +kernel), List.mem_of_getElem? (i := 257) (by decide +kernel)⟩
theorem lw_p12 : lw_okq (⟨"AreaOrders$Plan", "isAbove", "(II)Z"⟩, 12) := ⟨⟨by decide +kernel, by decide +kernel⟩, List.mem_of_getElem? (i := 18) (by decide +kernel), List.mem_of_getElem? (i := 264) (by decide +kernel), List.mem_of_getElem? (i := 265) (by decide +kernel)⟩
theorem lw_p13 : lw_okq (⟨"AreaOrders$Plan", "widestOf", "(I)I"⟩, 12) := ⟨⟨by decide +kernel, by decide +kernel⟩, List.mem_of_getElem? (i := 18) (by decide +kernel), List.mem_of_getElem? (i := 352) (by decide +kernel), List.mem_of_getElem? (i := 353) (by decide +kernel)⟩
theorem lw_p14 : lw_okq (⟨"AreaOrders", "firstWrong", "([III)I"⟩, 10) := ⟨⟨by decide +kernel, by decide +kernel⟩, List.mem_of_getElem? (i := 10) (by decide +kernel), List.mem_of_getElem? (i := 372) (by decide +kernel), List.mem_of_getElem? (i := 373) (by decide +kernel)⟩
theorem lw_p15 : lw_okq (⟨"AreaOrders", "actOnTrial", "(III)Z"⟩, 10) := ⟨⟨by decide +kernel, by decide +kernel⟩, List.mem_of_getElem? (i := 10) (by decide +kernel), List.mem_of_getElem? (i := 376) (by decide +kernel), List.mem_of_getElem? (i := 377) (by decide +kernel)⟩
def lw_privs_1 : List (MethodName × Nat) := [(⟨"AreaOrders", "failed", "(I)I"⟩, 10), (⟨"AreaOrders$Reader", "takesCode", "(I)Z"⟩, 5), (⟨"AreaOrders$Reader", "takesAreas", "()Z"⟩, 5), (⟨"AreaOrders$Reader", "takesArea", "(I)Z"⟩, 5), (⟨"AreaOrders$Reader", "takeKind", "()I"⟩, 5), (⟨"AreaOrders$Reader", "takeDigit", "(II)I"⟩, 5), (⟨"AreaOrders$Reader", "takesOrder", "(I)Z"⟩, 5), (⟨"AreaOrders$Plan", "findPlaces", "()V"⟩, 12), (⟨"AreaOrders$Plan", "heightOf", "(I)I"⟩, 12), (⟨"AreaOrders$Plan", "sizeOf", "(I)I"⟩, 12), (⟨"AreaOrders$Plan", "begin", "(II)V"⟩, 12), (⟨"AreaOrders$Plan", "isLeft", "(II)Z"⟩, 12), (⟨"AreaOrders$Plan", "isAbove", "(II)Z"⟩, 12), (⟨"AreaOrders$Plan", "widestOf", "(I)I"⟩, 12), (⟨"AreaOrders", "firstWrong", "([III)I"⟩, 10), (⟨"AreaOrders", "actOnTrial", "(III)Z"⟩, 10)]
theorem lw_r1 : ∀ q ∈ lw_privs_1, lw_okq q := List.forall_mem_cons.mpr ⟨lw_p0, List.forall_mem_cons.mpr ⟨lw_p1, List.forall_mem_cons.mpr ⟨lw_p2, List.forall_mem_cons.mpr ⟨lw_p3, List.forall_mem_cons.mpr ⟨lw_p4, List.forall_mem_cons.mpr ⟨lw_p5, List.forall_mem_cons.mpr ⟨lw_p6, List.forall_mem_cons.mpr ⟨lw_p7, List.forall_mem_cons.mpr ⟨lw_p8, List.forall_mem_cons.mpr ⟨lw_p9, List.forall_mem_cons.mpr ⟨lw_p10, List.forall_mem_cons.mpr ⟨lw_p11, List.forall_mem_cons.mpr ⟨lw_p12, List.forall_mem_cons.mpr ⟨lw_p13, List.forall_mem_cons.mpr ⟨lw_p14, List.forall_mem_cons.mpr ⟨lw_p15, fun _ h => absurd h List.not_mem_nil⟩⟩⟩⟩⟩⟩⟩⟩⟩⟩⟩⟩⟩⟩⟩⟩
theorem lw_p16 : lw_okq (⟨"AreaOrders", "ofTrial", "(I)I"⟩, 10) := ⟨⟨by decide +kernel, by decide +kernel⟩, List.mem_of_getElem? (i := 10) (by decide +kernel), List.mem_of_getElem? (i := 380) (by decide +kernel), List.mem_of_getElem? (i := 381) (by decide +kernel)⟩
theorem lw_p17 : lw_okq (⟨"AreaOrders", "findLeast", "()I"⟩, 10) := ⟨⟨by decide +kernel, by decide +kernel⟩, List.mem_of_getElem? (i := 10) (by decide +kernel), List.mem_of_getElem? (i := 388) (by decide +kernel), List.mem_of_getElem? (i := 389) (by decide +kernel)⟩
theorem lw_p18 : lw_okq (⟨"AreaOrders", "allAreAreas", "([III)Z"⟩, 10) := ⟨⟨by decide +kernel, by decide +kernel⟩, List.mem_of_getElem? (i := 10) (by decide +kernel), List.mem_of_getElem? (i := 407) (by decide +kernel), List.mem_of_getElem? (i := 408) (by decide +kernel)⟩
theorem lw_p19 : lw_okq (⟨"AreaOrders", "readingsHold", "()Z"⟩, 10) := ⟨⟨by decide +kernel, by decide +kernel⟩, List.mem_of_getElem? (i := 10) (by decide +kernel), List.mem_of_getElem? (i := 424) (by decide +kernel), List.mem_of_getElem? (i := 425) (by decide +kernel)⟩
theorem lw_p20 : lw_okq (⟨"AreaOrders", "ordersWithin", "(I)I"⟩, 10) := ⟨⟨by decide +kernel, by decide +kernel⟩, List.mem_of_getElem? (i := 10) (by decide +kernel), List.mem_of_getElem? (i := 437) (by decide +kernel), List.mem_of_getElem? (i := 438) (by decide +kernel)⟩
theorem lw_p21 : lw_okq (⟨"AreaOrders", "doubleBody", "(I)I"⟩, 10) := ⟨⟨by decide +kernel, by decide +kernel⟩, List.mem_of_getElem? (i := 10) (by decide +kernel), List.mem_of_getElem? (i := 479) (by decide +kernel), List.mem_of_getElem? (i := 480) (by decide +kernel)⟩
theorem lw_p22 : lw_okq (⟨"AreaOrders", "leave", "(I)V"⟩, 10) := ⟨⟨by decide +kernel, by decide +kernel⟩, List.mem_of_getElem? (i := 10) (by decide +kernel), List.mem_of_getElem? (i := 483) (by decide +kernel), List.mem_of_getElem? (i := 484) (by decide +kernel)⟩
theorem lw_p23 : lw_okq (⟨"AreaOrders", "broadBody", "(I)I"⟩, 10) := ⟨⟨by decide +kernel, by decide +kernel⟩, List.mem_of_getElem? (i := 10) (by decide +kernel), List.mem_of_getElem? (i := 487) (by decide +kernel), List.mem_of_getElem? (i := 488) (by decide +kernel)⟩
theorem lw_p24 : lw_okq (⟨"AreaOrders", "plainBody", "(I)I"⟩, 10) := ⟨⟨by decide +kernel, by decide +kernel⟩, List.mem_of_getElem? (i := 10) (by decide +kernel), List.mem_of_getElem? (i := 491) (by decide +kernel), List.mem_of_getElem? (i := 492) (by decide +kernel)⟩
theorem lw_p25 : lw_okq (⟨"AreaOrders", "ownBody", "(I)I"⟩, 10) := ⟨⟨by decide +kernel, by decide +kernel⟩, List.mem_of_getElem? (i := 10) (by decide +kernel), List.mem_of_getElem? (i := 499) (by decide +kernel), List.mem_of_getElem? (i := 500) (by decide +kernel)⟩
theorem lw_p26 : lw_okq (⟨"AreaOrders", "lentBody", "(I)I"⟩, 10) := ⟨⟨by decide +kernel, by decide +kernel⟩, List.mem_of_getElem? (i := 10) (by decide +kernel), List.mem_of_getElem? (i := 503) (by decide +kernel), List.mem_of_getElem? (i := 504) (by decide +kernel)⟩
theorem lw_p27 : lw_okq (⟨"AreaOrdersModel", "against", "(IIII)I"⟩, 34) := ⟨⟨by decide +kernel, by decide +kernel⟩, List.mem_of_getElem? (i := 523) (by decide +kernel), List.mem_of_getElem? (i := 645) (by decide +kernel), List.mem_of_getElem? (i := 646) (by decide +kernel)⟩
theorem lw_p28 : lw_okq (⟨"AreaOrdersModel", "fails", "(I)I"⟩, 34) := ⟨⟨by decide +kernel, by decide +kernel⟩, List.mem_of_getElem? (i := 523) (by decide +kernel), List.mem_of_getElem? (i := 649) (by decide +kernel), List.mem_of_getElem? (i := 650) (by decide +kernel)⟩
theorem lw_p29 : lw_okq (⟨"AreaOrdersModel", "readAll", "(I)Z"⟩, 34) := ⟨⟨by decide +kernel, by decide +kernel⟩, List.mem_of_getElem? (i := 523) (by decide +kernel), List.mem_of_getElem? (i := 653) (by decide +kernel), List.mem_of_getElem? (i := 654) (by decide +kernel)⟩
theorem lw_p30 : lw_okq (⟨"AreaOrdersModel", "isSign", "(II)Z"⟩, 34) := ⟨⟨by decide +kernel, by decide +kernel⟩, List.mem_of_getElem? (i := 523) (by decide +kernel), List.mem_of_getElem? (i := 657) (by decide +kernel), List.mem_of_getElem? (i := 658) (by decide +kernel)⟩
theorem lw_p31 : lw_okq (⟨"AreaOrdersModel", "readArea", "(I)Z"⟩, 34) := ⟨⟨by decide +kernel, by decide +kernel⟩, List.mem_of_getElem? (i := 523) (by decide +kernel), List.mem_of_getElem? (i := 661) (by decide +kernel), List.mem_of_getElem? (i := 662) (by decide +kernel)⟩
def lw_privs_2 : List (MethodName × Nat) := [(⟨"AreaOrders", "ofTrial", "(I)I"⟩, 10), (⟨"AreaOrders", "findLeast", "()I"⟩, 10), (⟨"AreaOrders", "allAreAreas", "([III)Z"⟩, 10), (⟨"AreaOrders", "readingsHold", "()Z"⟩, 10), (⟨"AreaOrders", "ordersWithin", "(I)I"⟩, 10), (⟨"AreaOrders", "doubleBody", "(I)I"⟩, 10), (⟨"AreaOrders", "leave", "(I)V"⟩, 10), (⟨"AreaOrders", "broadBody", "(I)I"⟩, 10), (⟨"AreaOrders", "plainBody", "(I)I"⟩, 10), (⟨"AreaOrders", "ownBody", "(I)I"⟩, 10), (⟨"AreaOrders", "lentBody", "(I)I"⟩, 10), (⟨"AreaOrdersModel", "against", "(IIII)I"⟩, 34), (⟨"AreaOrdersModel", "fails", "(I)I"⟩, 34), (⟨"AreaOrdersModel", "readAll", "(I)Z"⟩, 34), (⟨"AreaOrdersModel", "isSign", "(II)Z"⟩, 34), (⟨"AreaOrdersModel", "readArea", "(I)Z"⟩, 34)]
theorem lw_r2 : ∀ q ∈ lw_privs_2, lw_okq q := List.forall_mem_cons.mpr ⟨lw_p16, List.forall_mem_cons.mpr ⟨lw_p17, List.forall_mem_cons.mpr ⟨lw_p18, List.forall_mem_cons.mpr ⟨lw_p19, List.forall_mem_cons.mpr ⟨lw_p20, List.forall_mem_cons.mpr ⟨lw_p21, List.forall_mem_cons.mpr ⟨lw_p22, List.forall_mem_cons.mpr ⟨lw_p23, List.forall_mem_cons.mpr ⟨lw_p24, List.forall_mem_cons.mpr ⟨lw_p25, List.forall_mem_cons.mpr ⟨lw_p26, List.forall_mem_cons.mpr ⟨lw_p27, List.forall_mem_cons.mpr ⟨lw_p28, List.forall_mem_cons.mpr ⟨lw_p29, List.forall_mem_cons.mpr ⟨lw_p30, List.forall_mem_cons.mpr ⟨lw_p31, fun _ h => absurd h List.not_mem_nil⟩⟩⟩⟩⟩⟩⟩⟩⟩⟩⟩⟩⟩⟩⟩⟩
theorem lw_p32 : lw_okq (⟨"AreaOrdersModel", "digit", "(III)I"⟩, 34) := ⟨⟨by decide +kernel, by decide +kernel⟩, List.mem_of_getElem? (i := 523) (by decide +kernel), List.mem_of_getElem? (i := 665) (by decide +kernel), List.mem_of_getElem? (i := 666) (by decide +kernel)⟩
theorem lw_p33 : lw_okq (⟨"AreaOrdersModel", "readOrderNext", "(II)Z"⟩, 34) := ⟨⟨by decide +kernel, by decide +kernel⟩, List.mem_of_getElem? (i := 523) (by decide +kernel), List.mem_of_getElem? (i := 669) (by decide +kernel), List.mem_of_getElem? (i := 670) (by decide +kernel)⟩
theorem lw_p34 : lw_okq (⟨"AreaOrdersModel", "isArea", "(I)Z"⟩, 34) := ⟨⟨by decide +kernel, by decide +kernel⟩, List.mem_of_getElem? (i := 523) (by decide +kernel), List.mem_of_getElem? (i := 677) (by decide +kernel), List.mem_of_getElem? (i := 678) (by decide +kernel)⟩
theorem lw_p35 : lw_okq (⟨"AreaOrdersModel", "findPlaces", "()V"⟩, 34) := ⟨⟨by decide +kernel, by decide +kernel⟩, List.mem_of_getElem? (i := 523) (by decide +kernel), List.mem_of_getElem? (i := 681) (by decide +kernel), List.mem_of_getElem? (i := 682) (by decide +kernel)⟩
theorem lw_p36 : lw_okq (⟨"AreaOrdersModel", "findBreadth", "()V"⟩, 34) := ⟨⟨by decide +kernel, by decide +kernel⟩, List.mem_of_getElem? (i := 523) (by decide +kernel), List.mem_of_getElem? (i := 685) (by decide +kernel), List.mem_of_getElem? (i := 686) (by decide +kernel)⟩
theorem lw_p37 : lw_okq (⟨"AreaOrdersModel", "findDepth", "()V"⟩, 34) := ⟨⟨by decide +kernel, by decide +kernel⟩, List.mem_of_getElem? (i := 523) (by decide +kernel), List.mem_of_getElem? (i := 689) (by decide +kernel), List.mem_of_getElem? (i := 690) (by decide +kernel)⟩
theorem lw_p38 : lw_okq (⟨"AreaOrdersModel", "heightOf", "(I)I"⟩, 34) := ⟨⟨by decide +kernel, by decide +kernel⟩, List.mem_of_getElem? (i := 523) (by decide +kernel), List.mem_of_getElem? (i := 693) (by decide +kernel), List.mem_of_getElem? (i := 694) (by decide +kernel)⟩
theorem lw_p39 : lw_okq (⟨"AreaOrdersModel", "leftOf", "(I)I"⟩, 34) := ⟨⟨by decide +kernel, by decide +kernel⟩, List.mem_of_getElem? (i := 523) (by decide +kernel), List.mem_of_getElem? (i := 697) (by decide +kernel), List.mem_of_getElem? (i := 698) (by decide +kernel)⟩
theorem lw_p40 : lw_okq (⟨"AreaOrdersModel", "isLeft", "(II)Z"⟩, 34) := ⟨⟨by decide +kernel, by decide +kernel⟩, List.mem_of_getElem? (i := 523) (by decide +kernel), List.mem_of_getElem? (i := 701) (by decide +kernel), List.mem_of_getElem? (i := 702) (by decide +kernel)⟩
theorem lw_p41 : lw_okq (⟨"AreaOrdersModel", "placeIn", "(II)I"⟩, 34) := ⟨⟨by decide +kernel, by decide +kernel⟩, List.mem_of_getElem? (i := 523) (by decide +kernel), List.mem_of_getElem? (i := 705) (by decide +kernel), List.mem_of_getElem? (i := 706) (by decide +kernel)⟩
theorem lw_p42 : lw_okq (⟨"AreaOrdersModel", "aboveOf", "(I)I"⟩, 34) := ⟨⟨by decide +kernel, by decide +kernel⟩, List.mem_of_getElem? (i := 523) (by decide +kernel), List.mem_of_getElem? (i := 709) (by decide +kernel), List.mem_of_getElem? (i := 710) (by decide +kernel)⟩
theorem lw_p43 : lw_okq (⟨"AreaOrdersModel", "isAbove", "(II)Z"⟩, 34) := ⟨⟨by decide +kernel, by decide +kernel⟩, List.mem_of_getElem? (i := 523) (by decide +kernel), List.mem_of_getElem? (i := 713) (by decide +kernel), List.mem_of_getElem? (i := 714) (by decide +kernel)⟩
theorem lw_p44 : lw_okq (⟨"AreaOrdersModel", "touching", "(I)I"⟩, 34) := ⟨⟨by decide +kernel, by decide +kernel⟩, List.mem_of_getElem? (i := 523) (by decide +kernel), List.mem_of_getElem? (i := 717) (by decide +kernel), List.mem_of_getElem? (i := 718) (by decide +kernel)⟩
theorem lw_p45 : lw_okq (⟨"AreaOrdersModel", "doTouch", "(II)Z"⟩, 34) := ⟨⟨by decide +kernel, by decide +kernel⟩, List.mem_of_getElem? (i := 523) (by decide +kernel), List.mem_of_getElem? (i := 721) (by decide +kernel), List.mem_of_getElem? (i := 722) (by decide +kernel)⟩
theorem lw_p46 : lw_okq (⟨"AreaOrdersModel", "critical", "()I"⟩, 34) := ⟨⟨by decide +kernel, by decide +kernel⟩, List.mem_of_getElem? (i := 523) (by decide +kernel), List.mem_of_getElem? (i := 728) (by decide +kernel), List.mem_of_getElem? (i := 729) (by decide +kernel)⟩
theorem lw_p47 : lw_okq (⟨"AreaOrdersModel", "turns", "(II)V"⟩, 34) := ⟨⟨by decide +kernel, by decide +kernel⟩, List.mem_of_getElem? (i := 523) (by decide +kernel), List.mem_of_getElem? (i := 744) (by decide +kernel), List.mem_of_getElem? (i := 745) (by decide +kernel)⟩
def lw_privs_3 : List (MethodName × Nat) := [(⟨"AreaOrdersModel", "digit", "(III)I"⟩, 34), (⟨"AreaOrdersModel", "readOrderNext", "(II)Z"⟩, 34), (⟨"AreaOrdersModel", "isArea", "(I)Z"⟩, 34), (⟨"AreaOrdersModel", "findPlaces", "()V"⟩, 34), (⟨"AreaOrdersModel", "findBreadth", "()V"⟩, 34), (⟨"AreaOrdersModel", "findDepth", "()V"⟩, 34), (⟨"AreaOrdersModel", "heightOf", "(I)I"⟩, 34), (⟨"AreaOrdersModel", "leftOf", "(I)I"⟩, 34), (⟨"AreaOrdersModel", "isLeft", "(II)Z"⟩, 34), (⟨"AreaOrdersModel", "placeIn", "(II)I"⟩, 34), (⟨"AreaOrdersModel", "aboveOf", "(I)I"⟩, 34), (⟨"AreaOrdersModel", "isAbove", "(II)Z"⟩, 34), (⟨"AreaOrdersModel", "touching", "(I)I"⟩, 34), (⟨"AreaOrdersModel", "doTouch", "(II)Z"⟩, 34), (⟨"AreaOrdersModel", "critical", "()I"⟩, 34), (⟨"AreaOrdersModel", "turns", "(II)V"⟩, 34)]
theorem lw_r3 : ∀ q ∈ lw_privs_3, lw_okq q := List.forall_mem_cons.mpr ⟨lw_p32, List.forall_mem_cons.mpr ⟨lw_p33, List.forall_mem_cons.mpr ⟨lw_p34, List.forall_mem_cons.mpr ⟨lw_p35, List.forall_mem_cons.mpr ⟨lw_p36, List.forall_mem_cons.mpr ⟨lw_p37, List.forall_mem_cons.mpr ⟨lw_p38, List.forall_mem_cons.mpr ⟨lw_p39, List.forall_mem_cons.mpr ⟨lw_p40, List.forall_mem_cons.mpr ⟨lw_p41, List.forall_mem_cons.mpr ⟨lw_p42, List.forall_mem_cons.mpr ⟨lw_p43, List.forall_mem_cons.mpr ⟨lw_p44, List.forall_mem_cons.mpr ⟨lw_p45, List.forall_mem_cons.mpr ⟨lw_p46, List.forall_mem_cons.mpr ⟨lw_p47, fun _ h => absurd h List.not_mem_nil⟩⟩⟩⟩⟩⟩⟩⟩⟩⟩⟩⟩⟩⟩⟩⟩
theorem lw_p48 : lw_okq (⟨"AreaOrdersModel", "waste", "()I"⟩, 34) := ⟨⟨by decide +kernel, by decide +kernel⟩, List.mem_of_getElem? (i := 523) (by decide +kernel), List.mem_of_getElem? (i := 752) (by decide +kernel), List.mem_of_getElem? (i := 753) (by decide +kernel)⟩
theorem lw_p49 : lw_okq (⟨"AreaOrdersModel", "manyTouch", "()I"⟩, 34) := ⟨⟨by decide +kernel, by decide +kernel⟩, List.mem_of_getElem? (i := 523) (by decide +kernel), List.mem_of_getElem? (i := 756) (by decide +kernel), List.mem_of_getElem? (i := 757) (by decide +kernel)⟩
theorem lw_p50 : lw_okq (⟨"AreaOrdersModel", "widestOf", "(I)I"⟩, 34) := ⟨⟨by decide +kernel, by decide +kernel⟩, List.mem_of_getElem? (i := 523) (by decide +kernel), List.mem_of_getElem? (i := 767) (by decide +kernel), List.mem_of_getElem? (i := 768) (by decide +kernel)⟩
theorem lw_p51 : lw_okq (⟨"AreaOrdersModel", "keep", "()V"⟩, 34) := ⟨⟨by decide +kernel, by decide +kernel⟩, List.mem_of_getElem? (i := 523) (by decide +kernel), List.mem_of_getElem? (i := 775) (by decide +kernel), List.mem_of_getElem? (i := 776) (by decide +kernel)⟩
theorem lw_p52 : lw_okq (⟨"AreaOrdersModel", "goDay", "(II)I"⟩, 34) := ⟨⟨by decide +kernel, by decide +kernel⟩, List.mem_of_getElem? (i := 523) (by decide +kernel), List.mem_of_getElem? (i := 779) (by decide +kernel), List.mem_of_getElem? (i := 780) (by decide +kernel)⟩
theorem lw_p53 : lw_okq (⟨"AreaOrdersModel", "does", "(III)Z"⟩, 34) := ⟨⟨by decide +kernel, by decide +kernel⟩, List.mem_of_getElem? (i := 523) (by decide +kernel), List.mem_of_getElem? (i := 783) (by decide +kernel), List.mem_of_getElem? (i := 784) (by decide +kernel)⟩
theorem lw_p54 : lw_okq (⟨"AreaOrdersModel", "tellDay", "(I)I"⟩, 34) := ⟨⟨by decide +kernel, by decide +kernel⟩, List.mem_of_getElem? (i := 523) (by decide +kernel), List.mem_of_getElem? (i := 787) (by decide +kernel), List.mem_of_getElem? (i := 788) (by decide +kernel)⟩
theorem lw_p55 : lw_okq (⟨"AreaOrdersModel", "putBack", "()V"⟩, 34) := ⟨⟨by decide +kernel, by decide +kernel⟩, List.mem_of_getElem? (i := 523) (by decide +kernel), List.mem_of_getElem? (i := 791) (by decide +kernel), List.mem_of_getElem? (i := 792) (by decide +kernel)⟩
theorem lw_p56 : lw_okq (⟨"AreaOrdersModel", "findLeast", "(I)V"⟩, 34) := ⟨⟨by decide +kernel, by decide +kernel⟩, List.mem_of_getElem? (i := 523) (by decide +kernel), List.mem_of_getElem? (i := 799) (by decide +kernel), List.mem_of_getElem? (i := 800) (by decide +kernel)⟩
theorem lw_p57 : lw_okq (⟨"AreaOrdersModel", "goesOn", "()Z"⟩, 34) := ⟨⟨by decide +kernel, by decide +kernel⟩, List.mem_of_getElem? (i := 523) (by decide +kernel), List.mem_of_getElem? (i := 803) (by decide +kernel), List.mem_of_getElem? (i := 804) (by decide +kernel)⟩
theorem lw_p58 : lw_okq (⟨"AreaOrdersModel", "turnsAbout", "(II)V"⟩, 34) := ⟨⟨by decide +kernel, by decide +kernel⟩, List.mem_of_getElem? (i := 523) (by decide +kernel), List.mem_of_getElem? (i := 807) (by decide +kernel), List.mem_of_getElem? (i := 808) (by decide +kernel)⟩
theorem lw_p59 : lw_okq (⟨"AreaOrdersModel", "areSo", "()Z"⟩, 34) := ⟨⟨by decide +kernel, by decide +kernel⟩, List.mem_of_getElem? (i := 523) (by decide +kernel), List.mem_of_getElem? (i := 827) (by decide +kernel), List.mem_of_getElem? (i := 828) (by decide +kernel)⟩
theorem lw_p60 : lw_okq (⟨"AreaOrdersModel", "lost", "(I)J"⟩, 34) := ⟨⟨by decide +kernel, by decide +kernel⟩, List.mem_of_getElem? (i := 523) (by decide +kernel), List.mem_of_getElem? (i := 859) (by decide +kernel), List.mem_of_getElem? (i := 860) (by decide +kernel)⟩
theorem lw_p61 : lw_okq (⟨"AreaOrdersModel", "begins", "(I)V"⟩, 34) := ⟨⟨by decide +kernel, by decide +kernel⟩, List.mem_of_getElem? (i := 523) (by decide +kernel), List.mem_of_getElem? (i := 871) (by decide +kernel), List.mem_of_getElem? (i := 872) (by decide +kernel)⟩
def lw_privs_4 : List (MethodName × Nat) := [(⟨"AreaOrdersModel", "waste", "()I"⟩, 34), (⟨"AreaOrdersModel", "manyTouch", "()I"⟩, 34), (⟨"AreaOrdersModel", "widestOf", "(I)I"⟩, 34), (⟨"AreaOrdersModel", "keep", "()V"⟩, 34), (⟨"AreaOrdersModel", "goDay", "(II)I"⟩, 34), (⟨"AreaOrdersModel", "does", "(III)Z"⟩, 34), (⟨"AreaOrdersModel", "tellDay", "(I)I"⟩, 34), (⟨"AreaOrdersModel", "putBack", "()V"⟩, 34), (⟨"AreaOrdersModel", "findLeast", "(I)V"⟩, 34), (⟨"AreaOrdersModel", "goesOn", "()Z"⟩, 34), (⟨"AreaOrdersModel", "turnsAbout", "(II)V"⟩, 34), (⟨"AreaOrdersModel", "areSo", "()Z"⟩, 34), (⟨"AreaOrdersModel", "lost", "(I)J"⟩, 34), (⟨"AreaOrdersModel", "begins", "(I)V"⟩, 34)]
theorem lw_r4 : ∀ q ∈ lw_privs_4, lw_okq q := List.forall_mem_cons.mpr ⟨lw_p48, List.forall_mem_cons.mpr ⟨lw_p49, List.forall_mem_cons.mpr ⟨lw_p50, List.forall_mem_cons.mpr ⟨lw_p51, List.forall_mem_cons.mpr ⟨lw_p52, List.forall_mem_cons.mpr ⟨lw_p53, List.forall_mem_cons.mpr ⟨lw_p54, List.forall_mem_cons.mpr ⟨lw_p55, List.forall_mem_cons.mpr ⟨lw_p56, List.forall_mem_cons.mpr ⟨lw_p57, List.forall_mem_cons.mpr ⟨lw_p58, List.forall_mem_cons.mpr ⟨lw_p59, List.forall_mem_cons.mpr ⟨lw_p60, List.forall_mem_cons.mpr ⟨lw_p61, fun _ h => absurd h List.not_mem_nil⟩⟩⟩⟩⟩⟩⟩⟩⟩⟩⟩⟩⟩⟩
def lw_privs : List (MethodName × Nat) := lw_privs_1 ++ (lw_privs_2 ++ (lw_privs_3 ++ (lw_privs_4)))
def lw_tbl : List Cond := k2_sels lw_privs ++ tables_1
theorem lw_privs_ok : ∀ q ∈ lw_privs, lw_okq q := by
  show ∀ q ∈ lw_privs_1 ++ (lw_privs_2 ++ (lw_privs_3 ++ (lw_privs_4))), lw_okq q
  exact List.forall_mem_append.mpr ⟨lw_r1, List.forall_mem_append.mpr ⟨lw_r2, List.forall_mem_append.mpr ⟨lw_r3, lw_r4⟩⟩⟩
end
section
/-! ===== BEGIN words of one list among another's, by their places ===== -/
theorem goodIn_r {big : List Cond} (ws : List Cond) (ps : List Nat) (hp : ws = ps.filterMap (fun i => big[i]?)) (h : ws.all goodWord = true) : GoodIn big ws := by
  intro w hw
  have h1 := List.all_eq_true.mp h w hw
  rw [hp] at hw
  obtain ⟨i, -, hi⟩ := List.mem_filterMap.mp hw
  have hm : w ∈ big := by first | exact List.mem_of_getElem? hi | exact List.getElem?_mem hi
  exact ⟨hm, good_of_word h1⟩
theorem goodIn_app {big a b : List Cond} (ha : GoodIn big a) (hb : GoodIn big b) : GoodIn big (a ++ b) := fun w h => (List.mem_append.mp h).elim (ha w) (hb w)
theorem goodIn_ca {big a b : List Cond} {c : Cond} (ha : GoodIn big (c :: a)) (hb : GoodIn big b) : GoodIn big (c :: (a ++ b)) := fun w h => (List.mem_cons.mp h).elim (fun e => ha w (List.mem_cons.mpr (Or.inl e))) (fun h => (List.mem_append.mp h).elim (fun h => ha w (List.mem_cons.mpr (Or.inr h))) (hb w))
theorem goodIn_sub {big ws : List Cond} (hm : ∀ w ∈ ws, w ∈ big) (h : ws.all goodWord = true) : GoodIn big ws := fun w hw => ⟨hm w hw, good_of_word (List.all_eq_true.mp h w hw)⟩
/-! ===== END ===== -/

/-! ===== BEGIN printed: names, fields, word lists, decode rows ===== -/
def RX0 : String := "AreaOrders$Plan"
def TX0 : u_T := fun k => match k with
  | 0 => ("AreaOrders$Plan", "count", "I", false)
  | 1 => ("AreaOrders$Plan", "kind", "[I", true)
  | 2 => ("AreaOrders$Plan", "plot", "[I", true)
  | 3 => ("AreaOrders$Plan", "width", "[I", true)
  | 4 => ("AreaOrders$Plan", "serial", "[I", true)
  | 5 => ("AreaOrders$Plan", "order", "[[I", true)
  | 6 => ("AreaOrders$Plan", "place", "[[I", true)
  | 7 => ("AreaOrders$Plan", "height", "[I", true)
  | 8 => ("AreaOrders$Plan", "x", "[I", true)
  | 9 => ("AreaOrders$Plan", "y", "[I", true)
  | 10 => ("AreaOrders$Plan", "breadth", "I", false)
  | _ => ("AreaOrders$Plan", "depth", "I", false)
def tyX0 : Nat → FieldType := fun k => match k with
  | 0 => .int
  | 1 => .array .int
  | 2 => .array .int
  | 3 => .array .int
  | 4 => .array .int
  | 5 => .array (.array .int)
  | 6 => .array (.array .int)
  | 7 => .array .int
  | 8 => .array .int
  | 9 => .array .int
  | 10 => .int
  | _ => .int
abbrev wsX00 : List Cond := u_ws RX0 TX0 12
theorem nmX0 : ∀ a, a < 12 → ∀ b, b < 12 → a ≠ b → (TX0 a).2.1 ≠ (TX0 b).2.1 := by decide +kernel
theorem tyX0_ok : ∀ k, k < 12 → parseFieldDescriptor (TX0 k).2.2.1 = some (tyX0 k) := by decide +kernel
abbrev cX0_init : ByteArray := prog_2_method_1_code
def yX0_init : MethodName := ⟨RX0, "<init>", "()V"⟩
abbrev cX0_hasArea : ByteArray := prog_2_method_2_code
def yX0_hasArea : MethodName := ⟨RX0, "hasArea", "(I)Z"⟩
abbrev cX0_hasPlaceBehind : ByteArray := prog_2_method_3_code
def yX0_hasPlaceBehind : MethodName := ⟨RX0, "hasPlaceBehind", "(I)Z"⟩
abbrev cX0_becomeLike : ByteArray := prog_2_method_4_code
def yX0_becomeLike : MethodName := ⟨RX0, "becomeLike", "(LAreaOrders$Plan;)V"⟩
abbrev cX0_turnPlaces : ByteArray := prog_2_method_5_code
def yX0_turnPlaces : MethodName := ⟨RX0, "turnPlaces", "(II)V"⟩
abbrev cX0_swap : ByteArray := prog_2_method_6_code
def yX0_swap : MethodName := ⟨RX0, "swap", "([III)V"⟩
abbrev cX0_startOrders : ByteArray := prog_2_method_7_code
def yX0_startOrders : MethodName := ⟨RX0, "startOrders", "()V"⟩
abbrev cX0_stepOrder : ByteArray := prog_2_method_8_code
def yX0_stepOrder : MethodName := ⟨RX0, "stepOrder", "()V"⟩
abbrev cX0_lay : ByteArray := prog_2_method_9_code
def yX0_lay : MethodName := ⟨RX0, "lay", "()V"⟩
abbrev cX0_findPlaces : ByteArray := prog_2_method_10_code
def yX0_findPlaces : MethodName := ⟨RX0, "findPlaces", "()V"⟩
abbrev cX0_begin : ByteArray := prog_2_method_11_code
def yX0_begin : MethodName := ⟨RX0, "begin", "(II)V"⟩
abbrev cX0_sizeOf : ByteArray := prog_2_method_12_code
def yX0_sizeOf : MethodName := ⟨RX0, "sizeOf", "(I)I"⟩
abbrev cX0_heightOf : ByteArray := prog_2_method_13_code
def yX0_heightOf : MethodName := ⟨RX0, "heightOf", "(I)I"⟩
abbrev cX0_isLeft : ByteArray := prog_2_method_14_code
def yX0_isLeft : MethodName := ⟨RX0, "isLeft", "(II)Z"⟩
abbrev cX0_isAbove : ByteArray := prog_2_method_15_code
def yX0_isAbove : MethodName := ⟨RX0, "isAbove", "(II)Z"⟩
abbrev cX0_leftOf : ByteArray := prog_2_method_16_code
def yX0_leftOf : MethodName := ⟨RX0, "leftOf", "(I)I"⟩
abbrev cX0_aboveOf : ByteArray := prog_2_method_17_code
def yX0_aboveOf : MethodName := ⟨RX0, "aboveOf", "(I)I"⟩
abbrev cX0_touching : ByteArray := prog_2_method_18_code
def yX0_touching : MethodName := ⟨RX0, "touching", "(I)I"⟩
abbrev cX0_touchingTwos : ByteArray := prog_2_method_19_code
def yX0_touchingTwos : MethodName := ⟨RX0, "touchingTwos", "()I"⟩
abbrev cX0_touch : ByteArray := prog_2_method_20_code
def yX0_touch : MethodName := ⟨RX0, "touch", "(II)Z"⟩
abbrev cX0_meet : ByteArray := prog_2_method_21_code
def yX0_meet : MethodName := ⟨RX0, "meet", "(IIII)Z"⟩
abbrev cX0_share : ByteArray := prog_2_method_22_code
def yX0_share : MethodName := ⟨RX0, "share", "(IIII)Z"⟩
abbrev cX0_waste : ByteArray := prog_2_method_23_code
def yX0_waste : MethodName := ⟨RX0, "waste", "()I"⟩
abbrev cX0_isCritical : ByteArray := prog_2_method_24_code
def yX0_isCritical : MethodName := ⟨RX0, "isCritical", "(I)Z"⟩
abbrev cX0_criticalOnes : ByteArray := prog_2_method_25_code
def yX0_criticalOnes : MethodName := ⟨RX0, "criticalOnes", "()I"⟩
abbrev cX0_nextToNarrow : ByteArray := prog_2_method_26_code
def yX0_nextToNarrow : MethodName := ⟨RX0, "nextToNarrow", "()I"⟩
abbrev cX0_widestOf : ByteArray := prog_2_method_27_code
def yX0_widestOf : MethodName := ⟨RX0, "widestOf", "(I)I"⟩
def RX1 : String := "AreaOrders$Reader"
def TX1 : u_T := fun k => match k with
  | 0 => ("AreaOrders$Reader", "draft", "LAreaOrders$Plan;", true)
  | 1 => ("AreaOrders$Reader", "codes", "[I", true)
  | 2 => ("AreaOrders$Reader", "length", "I", false)
  | 3 => ("AreaOrders$Reader", "at", "I", false)
  | _ => ("AreaOrders$Reader", "everRead", "I", false)
def tyX1 : Nat → FieldType := fun k => match k with
  | 0 => .object "AreaOrders$Plan"
  | 1 => .array .int
  | 2 => .int
  | 3 => .int
  | _ => .int
abbrev wsX10 : List Cond := u_ws RX1 TX1 5
theorem nmX1 : ∀ a, a < 5 → ∀ b, b < 5 → a ≠ b → (TX1 a).2.1 ≠ (TX1 b).2.1 := by decide +kernel
theorem tyX1_ok : ∀ k, k < 5 → parseFieldDescriptor (TX1 k).2.2.1 = some (tyX1 k) := by decide +kernel
abbrev cX1_init : ByteArray := prog_3_method_1_code
def yX1_init : MethodName := ⟨RX1, "<init>", "()V"⟩
abbrev cX1_takes : ByteArray := prog_3_method_2_code
def yX1_takes : MethodName := ⟨RX1, "takes", "([III)Z"⟩
abbrev cX1_takesCode : ByteArray := prog_3_method_3_code
def yX1_takesCode : MethodName := ⟨RX1, "takesCode", "(I)Z"⟩
abbrev cX1_takeDigit : ByteArray := prog_3_method_4_code
def yX1_takeDigit : MethodName := ⟨RX1, "takeDigit", "(II)I"⟩
abbrev cX1_takeKind : ByteArray := prog_3_method_5_code
def yX1_takeKind : MethodName := ⟨RX1, "takeKind", "()I"⟩
abbrev cX1_takesAreas : ByteArray := prog_3_method_6_code
def yX1_takesAreas : MethodName := ⟨RX1, "takesAreas", "()Z"⟩
abbrev cX1_takesArea : ByteArray := prog_3_method_7_code
def yX1_takesArea : MethodName := ⟨RX1, "takesArea", "(I)Z"⟩
abbrev cX1_takesOrder : ByteArray := prog_3_method_8_code
def yX1_takesOrder : MethodName := ⟨RX1, "takesOrder", "(I)Z"⟩
def RX2 : String := "AreaOrders$Sheet"
def TX2 : u_T := fun k => match k with
  | 0 => ("AreaOrders$Sheet", "there", "Z", false)
  | 1 => ("AreaOrders$Sheet", "lane", "I", false)
  | 2 => ("AreaOrders$Sheet", "length", "I", false)
  | _ => ("AreaOrders$Sheet", "cells", "[I", true)
def tyX2 : Nat → FieldType := fun k => match k with
  | 0 => .boolean
  | 1 => .int
  | 2 => .int
  | _ => .array .int
abbrev wsX20 : List Cond := u_ws RX2 TX2 4
theorem nmX2 : ∀ a, a < 4 → ∀ b, b < 4 → a ≠ b → (TX2 a).2.1 ≠ (TX2 b).2.1 := by decide +kernel
theorem tyX2_ok : ∀ k, k < 4 → parseFieldDescriptor (TX2 k).2.2.1 = some (tyX2 k) := by decide +kernel
abbrev cX2_init : ByteArray := prog_4_method_1_code
def yX2_init : MethodName := ⟨RX2, "<init>", "()V"⟩
abbrev cX2_renew : ByteArray := prog_4_method_2_code
def yX2_renew : MethodName := ⟨RX2, "renew", "(II)V"⟩
abbrev cX2_faultAs : ByteArray := prog_4_method_3_code
def yX2_faultAs : MethodName := ⟨RX2, "faultAs", "(I)I"⟩
abbrev cX2_hasCell : ByteArray := prog_4_method_4_code
def yX2_hasCell : MethodName := ⟨RX2, "hasCell", "(I)Z"⟩
abbrev cX2_hasCells : ByteArray := prog_4_method_5_code
def yX2_hasCells : MethodName := ⟨RX2, "hasCells", "(II)Z"⟩
def RX3 : String := "AreaOrders"
def TX3 : u_T := fun k => match k with
  | 0 => ("AreaOrders", "plan", "LAreaOrders$Plan;", true)
  | 1 => ("AreaOrders", "trial", "LAreaOrders$Plan;", true)
  | 2 => ("AreaOrders", "reader", "LAreaOrders$Reader;", true)
  | 3 => ("AreaOrders", "sheets", "[LAreaOrders$Sheet;", true)
  | 4 => ("AreaOrders", "leastOrder", "[I", true)
  | 5 => ("AreaOrders", "readArea", "[I", true)
  | 6 => ("AreaOrders", "readY", "[I", true)
  | 7 => ("AreaOrders", "readings", "I", false)
  | 8 => ("AreaOrders", "traced", "I", false)
  | _ => ("AreaOrders", "latestFault", "I", false)
def tyX3 : Nat → FieldType := fun k => match k with
  | 0 => .object "AreaOrders$Plan"
  | 1 => .object "AreaOrders$Plan"
  | 2 => .object "AreaOrders$Reader"
  | 3 => .array (.object "AreaOrders$Sheet")
  | 4 => .array .int
  | 5 => .array .int
  | 6 => .array .int
  | 7 => .int
  | 8 => .int
  | _ => .int
abbrev wsX30 : List Cond := u_ws RX3 TX3 10
theorem nmX3 : ∀ a, a < 10 → ∀ b, b < 10 → a ≠ b → (TX3 a).2.1 ≠ (TX3 b).2.1 := by decide +kernel
theorem tyX3_ok : ∀ k, k < 10 → parseFieldDescriptor (TX3 k).2.2.1 = some (tyX3 k) := by decide +kernel
abbrev cX3_init : ByteArray := prog_1_method_1_code
def yX3_init : MethodName := ⟨RX3, "<init>", "()V"⟩
abbrev cX3_map : ByteArray := prog_1_method_2_code
def yX3_map : MethodName := ⟨RX3, "map", "(IIII)I"⟩
abbrev cX3_ofArea : ByteArray := prog_1_method_3_code
def yX3_ofArea : MethodName := ⟨RX3, "ofArea", "(II)I"⟩
abbrev cX3_width : ByteArray := prog_1_method_4_code
def yX3_width : MethodName := ⟨RX3, "width", "(II)I"⟩
abbrev cX3_plot : ByteArray := prog_1_method_5_code
def yX3_plot : MethodName := ⟨RX3, "plot", "(II)I"⟩
abbrev cX3_turn : ByteArray := prog_1_method_6_code
def yX3_turn : MethodName := ⟨RX3, "turn", "(II)I"⟩
abbrev cX3_whole : ByteArray := prog_1_method_7_code
def yX3_whole : MethodName := ⟨RX3, "whole", "(I)I"⟩
abbrev cX3_squeeze : ByteArray := prog_1_method_8_code
def yX3_squeeze : MethodName := ⟨RX3, "squeeze", "(I)I"⟩
abbrev cX3_day : ByteArray := prog_1_method_9_code
def yX3_day : MethodName := ⟨RX3, "day", "(IIIII)I"⟩
abbrev cX3_least : ByteArray := prog_1_method_10_code
def yX3_least : MethodName := ⟨RX3, "least", "(I)I"⟩
abbrev cX3_wishes : ByteArray := prog_1_method_11_code
def yX3_wishes : MethodName := ⟨RX3, "wishes", "(IIII)I"⟩
abbrev cX3_reading : ByteArray := prog_1_method_12_code
def yX3_reading : MethodName := ⟨RX3, "reading", "(II)I"⟩
abbrev cX3_back : ByteArray := prog_1_method_13_code
def yX3_back : MethodName := ⟨RX3, "back", "(I)I"⟩
abbrev cX3_kinds : ByteArray := prog_1_method_14_code
def yX3_kinds : MethodName := ⟨RX3, "kinds", "(I)I"⟩
abbrev cX3_widths : ByteArray := prog_1_method_15_code
def yX3_widths : MethodName := ⟨RX3, "widths", "(I)I"⟩
abbrev cX3_odds : ByteArray := prog_1_method_16_code
def yX3_odds : MethodName := ⟨RX3, "odds", "(II)J"⟩
abbrev cX3_sheet : ByteArray := prog_1_method_17_code
def yX3_sheet : MethodName := ⟨RX3, "sheet", "(III)I"⟩
abbrev cX3_lose : ByteArray := prog_1_method_18_code
def yX3_lose : MethodName := ⟨RX3, "lose", "(I)I"⟩
abbrev cX3_put : ByteArray := prog_1_method_19_code
def yX3_put : MethodName := ⟨RX3, "put", "(III)I"⟩
abbrev cX3_cell : ByteArray := prog_1_method_20_code
def yX3_cell : MethodName := ⟨RX3, "cell", "(III)J"⟩
abbrev cX3_copy : ByteArray := prog_1_method_21_code
def yX3_copy : MethodName := ⟨RX3, "copy", "(IIIII)I"⟩
abbrev cX3_tell : ByteArray := prog_1_method_22_code
def yX3_tell : MethodName := ⟨RX3, "tell", "(I)I"⟩
abbrev cX3_survey : ByteArray := prog_1_method_23_code
def yX3_survey : MethodName := ⟨RX3, "survey", "(I)I"⟩
abbrev cX3_as : ByteArray := prog_1_method_24_code
def yX3_as : MethodName := ⟨RX3, "as", "(II)I"⟩
abbrev cX3_trace : ByteArray := prog_1_method_25_code
def yX3_trace : MethodName := ⟨RX3, "trace", "()I"⟩
abbrev cX3_fault : ByteArray := prog_1_method_26_code
def yX3_fault : MethodName := ⟨RX3, "fault", "()I"⟩
abbrev cX3_many : ByteArray := prog_1_method_27_code
def yX3_many : MethodName := ⟨RX3, "many", "(I)I"⟩
abbrev cX3_isSheet : ByteArray := prog_1_method_28_code
def yX3_isSheet : MethodName := ⟨RX3, "isSheet", "(I)Z"⟩
abbrev cX3_isLane : ByteArray := prog_1_method_29_code
def yX3_isLane : MethodName := ⟨RX3, "isLane", "(I)Z"⟩
abbrev cX3_isOrder : ByteArray := prog_1_method_30_code
def yX3_isOrder : MethodName := ⟨RX3, "isOrder", "(I)Z"⟩
abbrev cX3_isWidth : ByteArray := prog_1_method_31_code
def yX3_isWidth : MethodName := ⟨RX3, "isWidth", "(I)Z"⟩
abbrev cX3_isPlot : ByteArray := prog_1_method_32_code
def yX3_isPlot : MethodName := ⟨RX3, "isPlot", "(I)Z"⟩
abbrev cX3_isTold : ByteArray := prog_1_method_33_code
def yX3_isTold : MethodName := ⟨RX3, "isTold", "(I)Z"⟩
abbrev cX3_isAskedOfDay : ByteArray := prog_1_method_34_code
def yX3_isAskedOfDay : MethodName := ⟨RX3, "isAskedOfDay", "(I)Z"⟩
abbrev cX3_cutTo : ByteArray := prog_1_method_35_code
def yX3_cutTo : MethodName := ⟨RX3, "cutTo", "(II)I"⟩
abbrev cX3_failed : ByteArray := prog_1_method_36_code
def yX3_failed : MethodName := ⟨RX3, "failed", "(I)I"⟩
abbrev cX3_faultOfRow : ByteArray := prog_1_method_37_code
def yX3_faultOfRow : MethodName := ⟨RX3, "faultOfRow", "(LAreaOrders$Sheet;III)I"⟩
abbrev cX3_sortsAreKnown : ByteArray := prog_1_method_38_code
def yX3_sortsAreKnown : MethodName := ⟨RX3, "sortsAreKnown", "([III)Z"⟩
abbrev cX3_firstWrong : ByteArray := prog_1_method_39_code
def yX3_firstWrong : MethodName := ⟨RX3, "firstWrong", "([III)I"⟩
abbrev cX3_actOnTrial : ByteArray := prog_1_method_40_code
def yX3_actOnTrial : MethodName := ⟨RX3, "actOnTrial", "(III)Z"⟩
abbrev cX3_ofTrial : ByteArray := prog_1_method_41_code
def yX3_ofTrial : MethodName := ⟨RX3, "ofTrial", "(I)I"⟩
abbrev cX3_findLeast : ByteArray := prog_1_method_42_code
def yX3_findLeast : MethodName := ⟨RX3, "findLeast", "()I"⟩
abbrev cX3_ordersWithin : ByteArray := prog_1_method_43_code
def yX3_ordersWithin : MethodName := ⟨RX3, "ordersWithin", "(I)I"⟩
abbrev cX3_commonDivisor : ByteArray := prog_1_method_44_code
def yX3_commonDivisor : MethodName := ⟨RX3, "commonDivisor", "(II)I"⟩
abbrev cX3_allAreAreas : ByteArray := prog_1_method_45_code
def yX3_allAreAreas : MethodName := ⟨RX3, "allAreAreas", "([III)Z"⟩
abbrev cX3_readingsHold : ByteArray := prog_1_method_46_code
def yX3_readingsHold : MethodName := ⟨RX3, "readingsHold", "()Z"⟩
abbrev cX3_leave : ByteArray := prog_1_method_47_code
def yX3_leave : MethodName := ⟨RX3, "leave", "(I)V"⟩
abbrev cX3_plainBody : ByteArray := prog_1_method_48_code
def yX3_plainBody : MethodName := ⟨RX3, "plainBody", "(I)I"⟩
abbrev cX3_broadBody : ByteArray := prog_1_method_49_code
def yX3_broadBody : MethodName := ⟨RX3, "broadBody", "(I)I"⟩
abbrev cX3_doubleBody : ByteArray := prog_1_method_50_code
def yX3_doubleBody : MethodName := ⟨RX3, "doubleBody", "(I)I"⟩
abbrev cX3_lentBody : ByteArray := prog_1_method_51_code
def yX3_lentBody : MethodName := ⟨RX3, "lentBody", "(I)I"⟩
abbrev cX3_ownBody : ByteArray := prog_1_method_52_code
def yX3_ownBody : MethodName := ⟨RX3, "ownBody", "(I)I"⟩
def RX4 : String := "AreaOrdersModel"
def TX4 : u_T := fun k => match k with
  | 0 => ("AreaOrdersModel", "fault", "I", false)
  | 1 => ("AreaOrdersModel", "trace", "I", false)
  | 2 => ("AreaOrdersModel", "sorts", "[I", true)
  | 3 => ("AreaOrdersModel", "sheetLong", "[I", true)
  | 4 => ("AreaOrdersModel", "cells", "[I", true)
  | 5 => ("AreaOrdersModel", "many", "I", false)
  | 6 => ("AreaOrdersModel", "everRead", "I", false)
  | 7 => ("AreaOrdersModel", "kind", "[I", true)
  | 8 => ("AreaOrdersModel", "plot", "[I", true)
  | 9 => ("AreaOrdersModel", "width", "[I", true)
  | 10 => ("AreaOrdersModel", "serial", "[I", true)
  | 11 => ("AreaOrdersModel", "order", "[I", true)
  | 12 => ("AreaOrdersModel", "at", "I", false)
  | 13 => ("AreaOrdersModel", "readMany", "I", false)
  | 14 => ("AreaOrdersModel", "readKind", "[I", true)
  | 15 => ("AreaOrdersModel", "readPlot", "[I", true)
  | 16 => ("AreaOrdersModel", "readWidth", "[I", true)
  | 17 => ("AreaOrdersModel", "readSerial", "[I", true)
  | 18 => ("AreaOrdersModel", "readOrder", "[I", true)
  | 19 => ("AreaOrdersModel", "x", "[I", true)
  | 20 => ("AreaOrdersModel", "y", "[I", true)
  | 21 => ("AreaOrdersModel", "second", "[I", true)
  | 22 => ("AreaOrdersModel", "breadth", "I", false)
  | 23 => ("AreaOrdersModel", "depth", "I", false)
  | 24 => ("AreaOrdersModel", "keptWidth", "[I", true)
  | 25 => ("AreaOrdersModel", "kept", "[I", true)
  | 26 => ("AreaOrdersModel", "keptOrder", "[I", true)
  | 27 => ("AreaOrdersModel", "bestOrder", "[I", true)
  | 28 => ("AreaOrdersModel", "least", "I", false)
  | 29 => ("AreaOrdersModel", "all", "I", false)
  | 30 => ("AreaOrdersModel", "small", "I", false)
  | 31 => ("AreaOrdersModel", "readings", "I", false)
  | 32 => ("AreaOrdersModel", "readArea", "[I", true)
  | _ => ("AreaOrdersModel", "readY", "[I", true)
def tyX4 : Nat → FieldType := fun k => match k with
  | 0 => .int
  | 1 => .int
  | 2 => .array .int
  | 3 => .array .int
  | 4 => .array .int
  | 5 => .int
  | 6 => .int
  | 7 => .array .int
  | 8 => .array .int
  | 9 => .array .int
  | 10 => .array .int
  | 11 => .array .int
  | 12 => .int
  | 13 => .int
  | 14 => .array .int
  | 15 => .array .int
  | 16 => .array .int
  | 17 => .array .int
  | 18 => .array .int
  | 19 => .array .int
  | 20 => .array .int
  | 21 => .array .int
  | 22 => .int
  | 23 => .int
  | 24 => .array .int
  | 25 => .array .int
  | 26 => .array .int
  | 27 => .array .int
  | 28 => .int
  | 29 => .int
  | 30 => .int
  | 31 => .int
  | 32 => .array .int
  | _ => .array .int
abbrev wsX40 : List Cond := u_ws RX4 TX4 34
theorem nmX4 : ∀ a, a < 34 → ∀ b, b < 34 → a ≠ b → (TX4 a).2.1 ≠ (TX4 b).2.1 := by decide +kernel
theorem tyX4_ok : ∀ k, k < 34 → parseFieldDescriptor (TX4 k).2.2.1 = some (tyX4 k) := by decide +kernel
abbrev cX4_init : ByteArray := prog_6_method_1_code
def yX4_init : MethodName := ⟨RX4, "<init>", "()V"⟩
abbrev cX4_fails : ByteArray := prog_6_method_3_code
def yX4_fails : MethodName := ⟨RX4, "fails", "(I)I"⟩
abbrev cX4_lost : ByteArray := prog_6_method_4_code
def yX4_lost : MethodName := ⟨RX4, "lost", "(I)J"⟩
abbrev cX4_within : ByteArray := prog_6_method_5_code
def yX4_within : MethodName := ⟨RX4, "within", "(III)Z"⟩
abbrev cX4_isSheet : ByteArray := prog_6_method_6_code
def yX4_isSheet : MethodName := ⟨RX4, "isSheet", "(I)Z"⟩
abbrev cX4_isSort : ByteArray := prog_6_method_7_code
def yX4_isSort : MethodName := ⟨RX4, "isSort", "(I)Z"⟩
abbrev cX4_against : ByteArray := prog_6_method_8_code
def yX4_against : MethodName := ⟨RX4, "against", "(IIII)I"⟩
abbrev cX4_isArea : ByteArray := prog_6_method_9_code
def yX4_isArea : MethodName := ⟨RX4, "isArea", "(I)Z"⟩
abbrev cX4_size : ByteArray := prog_6_method_10_code
def yX4_size : MethodName := ⟨RX4, "size", "(I)I"⟩
abbrev cX4_digit : ByteArray := prog_6_method_11_code
def yX4_digit : MethodName := ⟨RX4, "digit", "(III)I"⟩
abbrev cX4_isSign : ByteArray := prog_6_method_12_code
def yX4_isSign : MethodName := ⟨RX4, "isSign", "(II)Z"⟩
abbrev cX4_map : ByteArray := prog_6_method_13_code
def yX4_map : MethodName := ⟨RX4, "map", "(IIII)I"⟩
abbrev cX4_readAll : ByteArray := prog_6_method_14_code
def yX4_readAll : MethodName := ⟨RX4, "readAll", "(I)Z"⟩
abbrev cX4_readArea : ByteArray := prog_6_method_15_code
def yX4_readArea : MethodName := ⟨RX4, "readArea", "(I)Z"⟩
abbrev cX4_readOrderNext : ByteArray := prog_6_method_16_code
def yX4_readOrderNext : MethodName := ⟨RX4, "readOrderNext", "(II)Z"⟩
abbrev cX4_heightOf : ByteArray := prog_6_method_17_code
def yX4_heightOf : MethodName := ⟨RX4, "heightOf", "(I)I"⟩
abbrev cX4_placeIn : ByteArray := prog_6_method_18_code
def yX4_placeIn : MethodName := ⟨RX4, "placeIn", "(II)I"⟩
abbrev cX4_isLeft : ByteArray := prog_6_method_19_code
def yX4_isLeft : MethodName := ⟨RX4, "isLeft", "(II)Z"⟩
abbrev cX4_isAbove : ByteArray := prog_6_method_20_code
def yX4_isAbove : MethodName := ⟨RX4, "isAbove", "(II)Z"⟩
abbrev cX4_findBreadth : ByteArray := prog_6_method_21_code
def yX4_findBreadth : MethodName := ⟨RX4, "findBreadth", "()V"⟩
abbrev cX4_findDepth : ByteArray := prog_6_method_22_code
def yX4_findDepth : MethodName := ⟨RX4, "findDepth", "()V"⟩
abbrev cX4_findPlaces : ByteArray := prog_6_method_23_code
def yX4_findPlaces : MethodName := ⟨RX4, "findPlaces", "()V"⟩
abbrev cX4_waste : ByteArray := prog_6_method_24_code
def yX4_waste : MethodName := ⟨RX4, "waste", "()I"⟩
abbrev cX4_share : ByteArray := prog_6_method_25_code
def yX4_share : MethodName := ⟨RX4, "share", "(IIII)Z"⟩
abbrev cX4_doTouch : ByteArray := prog_6_method_26_code
def yX4_doTouch : MethodName := ⟨RX4, "doTouch", "(II)Z"⟩
abbrev cX4_touching : ByteArray := prog_6_method_27_code
def yX4_touching : MethodName := ⟨RX4, "touching", "(I)I"⟩
abbrev cX4_manyTouch : ByteArray := prog_6_method_28_code
def yX4_manyTouch : MethodName := ⟨RX4, "manyTouch", "()I"⟩
abbrev cX4_critical : ByteArray := prog_6_method_29_code
def yX4_critical : MethodName := ⟨RX4, "critical", "()I"⟩
abbrev cX4_leftOf : ByteArray := prog_6_method_30_code
def yX4_leftOf : MethodName := ⟨RX4, "leftOf", "(I)I"⟩
abbrev cX4_aboveOf : ByteArray := prog_6_method_31_code
def yX4_aboveOf : MethodName := ⟨RX4, "aboveOf", "(I)I"⟩
abbrev cX4_ofArea : ByteArray := prog_6_method_32_code
def yX4_ofArea : MethodName := ⟨RX4, "ofArea", "(II)I"⟩
abbrev cX4_width : ByteArray := prog_6_method_33_code
def yX4_width : MethodName := ⟨RX4, "width", "(II)I"⟩
abbrev cX4_plot : ByteArray := prog_6_method_34_code
def yX4_plot : MethodName := ⟨RX4, "plot", "(II)I"⟩
abbrev cX4_turns : ByteArray := prog_6_method_35_code
def yX4_turns : MethodName := ⟨RX4, "turns", "(II)V"⟩
abbrev cX4_turn : ByteArray := prog_6_method_36_code
def yX4_turn : MethodName := ⟨RX4, "turn", "(II)I"⟩
abbrev cX4_whole : ByteArray := prog_6_method_37_code
def yX4_whole : MethodName := ⟨RX4, "whole", "(I)I"⟩
abbrev cX4_widestOf : ByteArray := prog_6_method_38_code
def yX4_widestOf : MethodName := ⟨RX4, "widestOf", "(I)I"⟩
abbrev cX4_squeeze : ByteArray := prog_6_method_39_code
def yX4_squeeze : MethodName := ⟨RX4, "squeeze", "(I)I"⟩
abbrev cX4_keep : ByteArray := prog_6_method_40_code
def yX4_keep : MethodName := ⟨RX4, "keep", "()V"⟩
abbrev cX4_putBack : ByteArray := prog_6_method_41_code
def yX4_putBack : MethodName := ⟨RX4, "putBack", "()V"⟩
abbrev cX4_does : ByteArray := prog_6_method_42_code
def yX4_does : MethodName := ⟨RX4, "does", "(III)Z"⟩
abbrev cX4_goDay : ByteArray := prog_6_method_43_code
def yX4_goDay : MethodName := ⟨RX4, "goDay", "(II)I"⟩
abbrev cX4_day : ByteArray := prog_6_method_44_code
def yX4_day : MethodName := ⟨RX4, "day", "(IIIII)I"⟩
abbrev cX4_tellDay : ByteArray := prog_6_method_45_code
def yX4_tellDay : MethodName := ⟨RX4, "tellDay", "(I)I"⟩
abbrev cX4_goesOn : ByteArray := prog_6_method_46_code
def yX4_goesOn : MethodName := ⟨RX4, "goesOn", "()Z"⟩
abbrev cX4_turnsAbout : ByteArray := prog_6_method_47_code
def yX4_turnsAbout : MethodName := ⟨RX4, "turnsAbout", "(II)V"⟩
abbrev cX4_findLeast : ByteArray := prog_6_method_48_code
def yX4_findLeast : MethodName := ⟨RX4, "findLeast", "(I)V"⟩
abbrev cX4_least : ByteArray := prog_6_method_49_code
def yX4_least : MethodName := ⟨RX4, "least", "(I)I"⟩
abbrev cX4_wishes : ByteArray := prog_6_method_50_code
def yX4_wishes : MethodName := ⟨RX4, "wishes", "(IIII)I"⟩
abbrev cX4_reading : ByteArray := prog_6_method_51_code
def yX4_reading : MethodName := ⟨RX4, "reading", "(II)I"⟩
abbrev cX4_back : ByteArray := prog_6_method_52_code
def yX4_back : MethodName := ⟨RX4, "back", "(I)I"⟩
abbrev cX4_areSo : ByteArray := prog_6_method_53_code
def yX4_areSo : MethodName := ⟨RX4, "areSo", "()Z"⟩
abbrev cX4_kinds : ByteArray := prog_6_method_54_code
def yX4_kinds : MethodName := ⟨RX4, "kinds", "(I)I"⟩
abbrev cX4_widths : ByteArray := prog_6_method_55_code
def yX4_widths : MethodName := ⟨RX4, "widths", "(I)I"⟩
abbrev cX4_inLeastTerms : ByteArray := prog_6_method_56_code
def yX4_inLeastTerms : MethodName := ⟨RX4, "inLeastTerms", "(JJI)J"⟩
abbrev cX4_odds : ByteArray := prog_6_method_57_code
def yX4_odds : MethodName := ⟨RX4, "odds", "(II)J"⟩
abbrev cX4_sheet : ByteArray := prog_6_method_58_code
def yX4_sheet : MethodName := ⟨RX4, "sheet", "(III)I"⟩
abbrev cX4_lose : ByteArray := prog_6_method_59_code
def yX4_lose : MethodName := ⟨RX4, "lose", "(I)I"⟩
abbrev cX4_put : ByteArray := prog_6_method_60_code
def yX4_put : MethodName := ⟨RX4, "put", "(III)I"⟩
abbrev cX4_cell : ByteArray := prog_6_method_61_code
def yX4_cell : MethodName := ⟨RX4, "cell", "(III)J"⟩
abbrev cX4_copy : ByteArray := prog_6_method_62_code
def yX4_copy : MethodName := ⟨RX4, "copy", "(IIIII)I"⟩
abbrev cX4_begins : ByteArray := prog_6_method_63_code
def yX4_begins : MethodName := ⟨RX4, "begins", "(I)V"⟩
abbrev cX4_tell : ByteArray := prog_6_method_64_code
def yX4_tell : MethodName := ⟨RX4, "tell", "(I)I"⟩
abbrev cX4_survey : ByteArray := prog_6_method_65_code
def yX4_survey : MethodName := ⟨RX4, "survey", "(I)I"⟩
abbrev cX4_as : ByteArray := prog_6_method_66_code
def yX4_as : MethodName := ⟨RX4, "as", "(II)I"⟩
abbrev cX4_trace : ByteArray := prog_6_method_67_code
def yX4_trace : MethodName := ⟨RX4, "trace", "()I"⟩
abbrev cX4_fault : ByteArray := prog_6_method_68_code
def yX4_fault : MethodName := ⟨RX4, "fault", "()I"⟩
abbrev cX4_many : ByteArray := prog_6_method_69_code
def yX4_many : MethodName := ⟨RX4, "many", "(I)I"⟩
def RJ6 : String := "java/lang/Integer"
def TJ6 : u_T := fun k => match k with
  | _ => ("", "", "", false)
def tyJ6 : Nat → FieldType := fun k => match k with
  | _ => .int
abbrev wsJ60 : List Cond := u_ws RJ6 TJ6 0
theorem nmJ6 : ∀ a, a < 0 → ∀ b, b < 0 → a ≠ b → (TJ6 a).2.1 ≠ (TJ6 b).2.1 := by decide +kernel
theorem tyJ6_ok : ∀ k, k < 0 → parseFieldDescriptor (TJ6 k).2.2.1 = some (tyJ6 k) := by decide +kernel
abbrev cJ6_bitCount_0f7a4 : ByteArray := prog_7_method_49_code
def yJ6_bitCount_0f7a4 : MethodName := ⟨RJ6, "bitCount", "(I)I"⟩
def RJ9 : String := "java/lang/Math"
def TJ9 : u_T := fun k => match k with
  | _ => ("", "", "", false)
def tyJ9 : Nat → FieldType := fun k => match k with
  | _ => .int
abbrev wsJ90 : List Cond := u_ws RJ9 TJ9 0
theorem nmJ9 : ∀ a, a < 0 → ∀ b, b < 0 → a ≠ b → (TJ9 a).2.1 ≠ (TJ9 b).2.1 := by decide +kernel
theorem tyJ9_ok : ∀ k, k < 0 → parseFieldDescriptor (TJ9 k).2.2.1 = some (tyJ9 k) := by decide +kernel
abbrev cJ9_max_7cf53 : ByteArray := prog_8_method_65_code
def yJ9_max_7cf53 : MethodName := ⟨RJ9, "max", "(II)I"⟩
def RJ10 : String := "java/lang/System"
def TJ10 : u_T := fun k => match k with
  | _ => ("", "", "", false)
def tyJ10 : Nat → FieldType := fun k => match k with
  | _ => .int
abbrev wsJ100 : List Cond := u_ws RJ10 TJ10 0
theorem nmJ10 : ∀ a, a < 0 → ∀ b, b < 0 → a ≠ b → (TJ10 a).2.1 ≠ (TJ10 b).2.1 := by decide +kernel
theorem tyJ10_ok : ∀ k, k < 0 → parseFieldDescriptor (TJ10 k).2.2.1 = some (tyJ10 k) := by decide +kernel
def RL : String := "AreaOrdersLaw"
abbrev cL_law : ByteArray := code
def yL_law : MethodName := ⟨RL, "law", "([I)Z"⟩
abbrev vwCl : List vw_C := [(RX0, TX0, 12), (RX1, TX1, 5), (RX2, TX2, 4), (RX3, TX3, 10), (RX4, TX4, 34)]
end
section
theorem dX0_init_0 : decode cX0_init 0 = .ok (.aload_n 0, 1) := by decide +kernel
theorem dX0_init_1 : decode cX0_init 1 = .ok (.invokespecial 3, 3) := by decide +kernel
theorem dX0_init_4 : decode cX0_init 4 = .ok (.aload_n 0, 1) := by decide +kernel
theorem dX0_init_5 : decode cX0_init 5 = .ok (.bipush 6, 2) := by decide +kernel
theorem dX0_init_7 : decode cX0_init 7 = .ok (.newarray .int, 2) := by decide +kernel
theorem dX0_init_9 : decode cX0_init 9 = .ok (.putfield 9, 3) := by decide +kernel
theorem dX0_init_12 : decode cX0_init 12 = .ok (.aload_n 0, 1) := by decide +kernel
theorem dX0_init_13 : decode cX0_init 13 = .ok (.bipush 6, 2) := by decide +kernel
theorem dX0_init_15 : decode cX0_init 15 = .ok (.newarray .int, 2) := by decide +kernel
theorem dX0_init_17 : decode cX0_init 17 = .ok (.putfield 15, 3) := by decide +kernel
theorem dX0_init_20 : decode cX0_init 20 = .ok (.aload_n 0, 1) := by decide +kernel
theorem dX0_init_21 : decode cX0_init 21 = .ok (.bipush 6, 2) := by decide +kernel
theorem dX0_init_23 : decode cX0_init 23 = .ok (.newarray .int, 2) := by decide +kernel
theorem dX0_init_25 : decode cX0_init 25 = .ok (.putfield 18, 3) := by decide +kernel
theorem dX0_init_28 : decode cX0_init 28 = .ok (.aload_n 0, 1) := by decide +kernel
theorem dX0_init_29 : decode cX0_init 29 = .ok (.bipush 6, 2) := by decide +kernel
theorem dX0_init_31 : decode cX0_init 31 = .ok (.newarray .int, 2) := by decide +kernel
theorem dX0_init_33 : decode cX0_init 33 = .ok (.putfield 21, 3) := by decide +kernel
theorem dX0_init_36 : decode cX0_init 36 = .ok (.aload_n 0, 1) := by decide +kernel
theorem dX0_init_37 : decode cX0_init 37 = .ok (.iconst 2, 1) := by decide +kernel
theorem dX0_init_38 : decode cX0_init 38 = .ok (.bipush 6, 2) := by decide +kernel
theorem dX0_init_40 : decode cX0_init 40 = .ok (.multianewarray 24 2, 4) := by decide +kernel
theorem dX0_init_44 : decode cX0_init 44 = .ok (.putfield 26, 3) := by decide +kernel
theorem dX0_init_47 : decode cX0_init 47 = .ok (.aload_n 0, 1) := by decide +kernel
theorem dX0_init_48 : decode cX0_init 48 = .ok (.iconst 2, 1) := by decide +kernel
theorem dX0_init_49 : decode cX0_init 49 = .ok (.bipush 6, 2) := by decide +kernel
theorem dX0_init_51 : decode cX0_init 51 = .ok (.multianewarray 24 2, 4) := by decide +kernel
theorem dX0_init_55 : decode cX0_init 55 = .ok (.putfield 29, 3) := by decide +kernel
theorem dX0_init_58 : decode cX0_init 58 = .ok (.aload_n 0, 1) := by decide +kernel
theorem dX0_init_59 : decode cX0_init 59 = .ok (.bipush 6, 2) := by decide +kernel
theorem dX0_init_61 : decode cX0_init 61 = .ok (.newarray .int, 2) := by decide +kernel
theorem dX0_init_63 : decode cX0_init 63 = .ok (.putfield 32, 3) := by decide +kernel
theorem dX0_init_66 : decode cX0_init 66 = .ok (.aload_n 0, 1) := by decide +kernel
theorem dX0_init_67 : decode cX0_init 67 = .ok (.bipush 6, 2) := by decide +kernel
theorem dX0_init_69 : decode cX0_init 69 = .ok (.newarray .int, 2) := by decide +kernel
theorem dX0_init_71 : decode cX0_init 71 = .ok (.putfield 35, 3) := by decide +kernel
theorem dX0_init_74 : decode cX0_init 74 = .ok (.aload_n 0, 1) := by decide +kernel
theorem dX0_init_75 : decode cX0_init 75 = .ok (.bipush 6, 2) := by decide +kernel
theorem dX0_init_77 : decode cX0_init 77 = .ok (.newarray .int, 2) := by decide +kernel
theorem dX0_init_79 : decode cX0_init 79 = .ok (.putfield 38, 3) := by decide +kernel
theorem dX0_init_82 : decode cX0_init 82 = .ok (.return_, 1) := by decide +kernel
theorem dX0_hasArea_0 : decode cX0_hasArea 0 = .ok (.iload_n 1, 1) := by decide +kernel
theorem dX0_hasArea_1 : decode cX0_hasArea 1 = .ok (.ifCond .lt 15, 3) := by decide +kernel
theorem dX0_hasArea_4 : decode cX0_hasArea 4 = .ok (.iload_n 1, 1) := by decide +kernel
theorem dX0_hasArea_5 : decode cX0_hasArea 5 = .ok (.aload_n 0, 1) := by decide +kernel
theorem dX0_hasArea_6 : decode cX0_hasArea 6 = .ok (.getfield 41, 3) := by decide +kernel
theorem dX0_hasArea_9 : decode cX0_hasArea 9 = .ok (.if_icmp .ge 7, 3) := by decide +kernel
theorem dX0_hasArea_12 : decode cX0_hasArea 12 = .ok (.iconst 1, 1) := by decide +kernel
theorem dX0_hasArea_13 : decode cX0_hasArea 13 = .ok (.goto 4, 3) := by decide +kernel
theorem dX0_hasArea_16 : decode cX0_hasArea 16 = .ok (.iconst 0, 1) := by decide +kernel
theorem dX0_hasArea_17 : decode cX0_hasArea 17 = .ok (.ireturn, 1) := by decide +kernel
theorem dX0_hasPlaceBehind_0 : decode cX0_hasPlaceBehind 0 = .ok (.iload_n 1, 1) := by decide +kernel
theorem dX0_hasPlaceBehind_1 : decode cX0_hasPlaceBehind 1 = .ok (.ifCond .lt 17, 3) := by decide +kernel
theorem dX0_hasPlaceBehind_4 : decode cX0_hasPlaceBehind 4 = .ok (.iload_n 1, 1) := by decide +kernel
theorem dX0_hasPlaceBehind_5 : decode cX0_hasPlaceBehind 5 = .ok (.aload_n 0, 1) := by decide +kernel
theorem dX0_hasPlaceBehind_6 : decode cX0_hasPlaceBehind 6 = .ok (.getfield 41, 3) := by decide +kernel
theorem dX0_hasPlaceBehind_9 : decode cX0_hasPlaceBehind 9 = .ok (.iconst 1, 1) := by decide +kernel
theorem dX0_hasPlaceBehind_10 : decode cX0_hasPlaceBehind 10 = .ok (.isub, 1) := by decide +kernel
theorem dX0_hasPlaceBehind_11 : decode cX0_hasPlaceBehind 11 = .ok (.if_icmp .ge 7, 3) := by decide +kernel
theorem dX0_hasPlaceBehind_14 : decode cX0_hasPlaceBehind 14 = .ok (.iconst 1, 1) := by decide +kernel
theorem dX0_hasPlaceBehind_15 : decode cX0_hasPlaceBehind 15 = .ok (.goto 4, 3) := by decide +kernel
theorem dX0_hasPlaceBehind_18 : decode cX0_hasPlaceBehind 18 = .ok (.iconst 0, 1) := by decide +kernel
theorem dX0_hasPlaceBehind_19 : decode cX0_hasPlaceBehind 19 = .ok (.ireturn, 1) := by decide +kernel
theorem dX0_becomeLike_0 : decode cX0_becomeLike 0 = .ok (.aload_n 0, 1) := by decide +kernel
theorem dX0_becomeLike_1 : decode cX0_becomeLike 1 = .ok (.aload_n 1, 1) := by decide +kernel
theorem dX0_becomeLike_2 : decode cX0_becomeLike 2 = .ok (.getfield 41, 3) := by decide +kernel
theorem dX0_becomeLike_5 : decode cX0_becomeLike 5 = .ok (.putfield 41, 3) := by decide +kernel
theorem dX0_becomeLike_8 : decode cX0_becomeLike 8 = .ok (.aload_n 1, 1) := by decide +kernel
theorem dX0_becomeLike_9 : decode cX0_becomeLike 9 = .ok (.getfield 9, 3) := by decide +kernel
theorem dX0_becomeLike_12 : decode cX0_becomeLike 12 = .ok (.iconst 0, 1) := by decide +kernel
theorem dX0_becomeLike_13 : decode cX0_becomeLike 13 = .ok (.aload_n 0, 1) := by decide +kernel
theorem dX0_becomeLike_14 : decode cX0_becomeLike 14 = .ok (.getfield 9, 3) := by decide +kernel
theorem dX0_becomeLike_17 : decode cX0_becomeLike 17 = .ok (.iconst 0, 1) := by decide +kernel
theorem dX0_becomeLike_18 : decode cX0_becomeLike 18 = .ok (.bipush 6, 2) := by decide +kernel
theorem dX0_becomeLike_20 : decode cX0_becomeLike 20 = .ok (.invokestatic 45, 3) := by decide +kernel
theorem dX0_becomeLike_23 : decode cX0_becomeLike 23 = .ok (.aload_n 1, 1) := by decide +kernel
theorem dX0_becomeLike_24 : decode cX0_becomeLike 24 = .ok (.getfield 15, 3) := by decide +kernel
theorem dX0_becomeLike_27 : decode cX0_becomeLike 27 = .ok (.iconst 0, 1) := by decide +kernel
theorem dX0_becomeLike_28 : decode cX0_becomeLike 28 = .ok (.aload_n 0, 1) := by decide +kernel
theorem dX0_becomeLike_29 : decode cX0_becomeLike 29 = .ok (.getfield 15, 3) := by decide +kernel
theorem dX0_becomeLike_32 : decode cX0_becomeLike 32 = .ok (.iconst 0, 1) := by decide +kernel
theorem dX0_becomeLike_33 : decode cX0_becomeLike 33 = .ok (.bipush 6, 2) := by decide +kernel
theorem dX0_becomeLike_35 : decode cX0_becomeLike 35 = .ok (.invokestatic 45, 3) := by decide +kernel
theorem dX0_becomeLike_38 : decode cX0_becomeLike 38 = .ok (.aload_n 1, 1) := by decide +kernel
theorem dX0_becomeLike_39 : decode cX0_becomeLike 39 = .ok (.getfield 18, 3) := by decide +kernel
theorem dX0_becomeLike_42 : decode cX0_becomeLike 42 = .ok (.iconst 0, 1) := by decide +kernel
theorem dX0_becomeLike_43 : decode cX0_becomeLike 43 = .ok (.aload_n 0, 1) := by decide +kernel
theorem dX0_becomeLike_44 : decode cX0_becomeLike 44 = .ok (.getfield 18, 3) := by decide +kernel
theorem dX0_becomeLike_47 : decode cX0_becomeLike 47 = .ok (.iconst 0, 1) := by decide +kernel
theorem dX0_becomeLike_48 : decode cX0_becomeLike 48 = .ok (.bipush 6, 2) := by decide +kernel
theorem dX0_becomeLike_50 : decode cX0_becomeLike 50 = .ok (.invokestatic 45, 3) := by decide +kernel
theorem dX0_becomeLike_53 : decode cX0_becomeLike 53 = .ok (.aload_n 1, 1) := by decide +kernel
theorem dX0_becomeLike_54 : decode cX0_becomeLike 54 = .ok (.getfield 21, 3) := by decide +kernel
theorem dX0_becomeLike_57 : decode cX0_becomeLike 57 = .ok (.iconst 0, 1) := by decide +kernel
theorem dX0_becomeLike_58 : decode cX0_becomeLike 58 = .ok (.aload_n 0, 1) := by decide +kernel
theorem dX0_becomeLike_59 : decode cX0_becomeLike 59 = .ok (.getfield 21, 3) := by decide +kernel
theorem dX0_becomeLike_62 : decode cX0_becomeLike 62 = .ok (.iconst 0, 1) := by decide +kernel
theorem dX0_becomeLike_63 : decode cX0_becomeLike 63 = .ok (.bipush 6, 2) := by decide +kernel
theorem dX0_becomeLike_65 : decode cX0_becomeLike 65 = .ok (.invokestatic 45, 3) := by decide +kernel
theorem dX0_becomeLike_68 : decode cX0_becomeLike 68 = .ok (.aload_n 1, 1) := by decide +kernel
theorem dX0_becomeLike_69 : decode cX0_becomeLike 69 = .ok (.getfield 26, 3) := by decide +kernel
theorem dX0_becomeLike_72 : decode cX0_becomeLike 72 = .ok (.iconst 0, 1) := by decide +kernel
theorem dX0_becomeLike_73 : decode cX0_becomeLike 73 = .ok (.aaload, 1) := by decide +kernel
theorem dX0_becomeLike_74 : decode cX0_becomeLike 74 = .ok (.iconst 0, 1) := by decide +kernel
theorem dX0_becomeLike_75 : decode cX0_becomeLike 75 = .ok (.aload_n 0, 1) := by decide +kernel
theorem dX0_becomeLike_76 : decode cX0_becomeLike 76 = .ok (.getfield 26, 3) := by decide +kernel
theorem dX0_becomeLike_79 : decode cX0_becomeLike 79 = .ok (.iconst 0, 1) := by decide +kernel
theorem dX0_becomeLike_80 : decode cX0_becomeLike 80 = .ok (.aaload, 1) := by decide +kernel
theorem dX0_becomeLike_81 : decode cX0_becomeLike 81 = .ok (.iconst 0, 1) := by decide +kernel
theorem dX0_becomeLike_82 : decode cX0_becomeLike 82 = .ok (.bipush 6, 2) := by decide +kernel
theorem dX0_becomeLike_84 : decode cX0_becomeLike 84 = .ok (.invokestatic 45, 3) := by decide +kernel
theorem dX0_becomeLike_87 : decode cX0_becomeLike 87 = .ok (.aload_n 1, 1) := by decide +kernel
theorem dX0_becomeLike_88 : decode cX0_becomeLike 88 = .ok (.getfield 26, 3) := by decide +kernel
theorem dX0_becomeLike_91 : decode cX0_becomeLike 91 = .ok (.iconst 1, 1) := by decide +kernel
theorem dX0_becomeLike_92 : decode cX0_becomeLike 92 = .ok (.aaload, 1) := by decide +kernel
theorem dX0_becomeLike_93 : decode cX0_becomeLike 93 = .ok (.iconst 0, 1) := by decide +kernel
theorem dX0_becomeLike_94 : decode cX0_becomeLike 94 = .ok (.aload_n 0, 1) := by decide +kernel
theorem dX0_becomeLike_95 : decode cX0_becomeLike 95 = .ok (.getfield 26, 3) := by decide +kernel
theorem dX0_becomeLike_98 : decode cX0_becomeLike 98 = .ok (.iconst 1, 1) := by decide +kernel
theorem dX0_becomeLike_99 : decode cX0_becomeLike 99 = .ok (.aaload, 1) := by decide +kernel
theorem dX0_becomeLike_100 : decode cX0_becomeLike 100 = .ok (.iconst 0, 1) := by decide +kernel
theorem dX0_becomeLike_101 : decode cX0_becomeLike 101 = .ok (.bipush 6, 2) := by decide +kernel
theorem dX0_becomeLike_103 : decode cX0_becomeLike 103 = .ok (.invokestatic 45, 3) := by decide +kernel
theorem dX0_becomeLike_106 : decode cX0_becomeLike 106 = .ok (.aload_n 0, 1) := by decide +kernel
theorem dX0_becomeLike_107 : decode cX0_becomeLike 107 = .ok (.invokevirtual 51, 3) := by decide +kernel
theorem dX0_becomeLike_110 : decode cX0_becomeLike 110 = .ok (.return_, 1) := by decide +kernel
theorem dX0_turnPlaces_0 : decode cX0_turnPlaces 0 = .ok (.aload_n 0, 1) := by decide +kernel
theorem dX0_turnPlaces_1 : decode cX0_turnPlaces 1 = .ok (.getfield 26, 3) := by decide +kernel
theorem dX0_turnPlaces_4 : decode cX0_turnPlaces 4 = .ok (.iload_n 1, 1) := by decide +kernel
theorem dX0_turnPlaces_5 : decode cX0_turnPlaces 5 = .ok (.aaload, 1) := by decide +kernel
theorem dX0_turnPlaces_6 : decode cX0_turnPlaces 6 = .ok (.iload_n 2, 1) := by decide +kernel
theorem dX0_turnPlaces_7 : decode cX0_turnPlaces 7 = .ok (.iload_n 2, 1) := by decide +kernel
theorem dX0_turnPlaces_8 : decode cX0_turnPlaces 8 = .ok (.iconst 1, 1) := by decide +kernel
theorem dX0_turnPlaces_9 : decode cX0_turnPlaces 9 = .ok (.iadd, 1) := by decide +kernel
theorem dX0_turnPlaces_10 : decode cX0_turnPlaces 10 = .ok (.invokestatic 54, 3) := by decide +kernel
theorem dX0_turnPlaces_13 : decode cX0_turnPlaces 13 = .ok (.return_, 1) := by decide +kernel
theorem dX0_swap_0 : decode cX0_swap 0 = .ok (.aload_n 0, 1) := by decide +kernel
theorem dX0_swap_1 : decode cX0_swap 1 = .ok (.iload_n 1, 1) := by decide +kernel
theorem dX0_swap_2 : decode cX0_swap 2 = .ok (.iaload, 1) := by decide +kernel
theorem dX0_swap_3 : decode cX0_swap 3 = .ok (.istore_n 3, 1) := by decide +kernel
theorem dX0_swap_4 : decode cX0_swap 4 = .ok (.aload_n 0, 1) := by decide +kernel
theorem dX0_swap_5 : decode cX0_swap 5 = .ok (.iload_n 1, 1) := by decide +kernel
theorem dX0_swap_6 : decode cX0_swap 6 = .ok (.aload_n 0, 1) := by decide +kernel
theorem dX0_swap_7 : decode cX0_swap 7 = .ok (.iload_n 2, 1) := by decide +kernel
theorem dX0_swap_8 : decode cX0_swap 8 = .ok (.iaload, 1) := by decide +kernel
theorem dX0_swap_9 : decode cX0_swap 9 = .ok (.iastore, 1) := by decide +kernel
theorem dX0_swap_10 : decode cX0_swap 10 = .ok (.aload_n 0, 1) := by decide +kernel
theorem dX0_swap_11 : decode cX0_swap 11 = .ok (.iload_n 2, 1) := by decide +kernel
theorem dX0_swap_12 : decode cX0_swap 12 = .ok (.iload_n 3, 1) := by decide +kernel
theorem dX0_swap_13 : decode cX0_swap 13 = .ok (.iastore, 1) := by decide +kernel
theorem dX0_swap_14 : decode cX0_swap 14 = .ok (.return_, 1) := by decide +kernel
theorem dX0_startOrders_0 : decode cX0_startOrders 0 = .ok (.iconst 0, 1) := by decide +kernel
theorem dX0_startOrders_1 : decode cX0_startOrders 1 = .ok (.istore_n 1, 1) := by decide +kernel
theorem dX0_startOrders_2 : decode cX0_startOrders 2 = .ok (.iload_n 1, 1) := by decide +kernel
theorem dX0_startOrders_3 : decode cX0_startOrders 3 = .ok (.aload_n 0, 1) := by decide +kernel
theorem dX0_startOrders_4 : decode cX0_startOrders 4 = .ok (.getfield 41, 3) := by decide +kernel
theorem dX0_startOrders_7 : decode cX0_startOrders 7 = .ok (.if_icmp .ge 18, 3) := by decide +kernel
theorem dX0_startOrders_10 : decode cX0_startOrders 10 = .ok (.aload_n 0, 1) := by decide +kernel
theorem dX0_startOrders_11 : decode cX0_startOrders 11 = .ok (.getfield 26, 3) := by decide +kernel
theorem dX0_startOrders_14 : decode cX0_startOrders 14 = .ok (.iconst 1, 1) := by decide +kernel
theorem dX0_startOrders_15 : decode cX0_startOrders 15 = .ok (.aaload, 1) := by decide +kernel
theorem dX0_startOrders_16 : decode cX0_startOrders 16 = .ok (.iload_n 1, 1) := by decide +kernel
theorem dX0_startOrders_17 : decode cX0_startOrders 17 = .ok (.iload_n 1, 1) := by decide +kernel
theorem dX0_startOrders_18 : decode cX0_startOrders 18 = .ok (.iastore, 1) := by decide +kernel
theorem dX0_startOrders_19 : decode cX0_startOrders 19 = .ok (.iinc 1 1, 3) := by decide +kernel
theorem dX0_startOrders_22 : decode cX0_startOrders 22 = .ok (.goto (-20), 3) := by decide +kernel
theorem dX0_startOrders_25 : decode cX0_startOrders 25 = .ok (.return_, 1) := by decide +kernel
theorem dX0_stepOrder_0 : decode cX0_stepOrder 0 = .ok (.aload_n 0, 1) := by decide +kernel
theorem dX0_stepOrder_1 : decode cX0_stepOrder 1 = .ok (.getfield 26, 3) := by decide +kernel
theorem dX0_stepOrder_4 : decode cX0_stepOrder 4 = .ok (.iconst 1, 1) := by decide +kernel
theorem dX0_stepOrder_5 : decode cX0_stepOrder 5 = .ok (.aaload, 1) := by decide +kernel
theorem dX0_stepOrder_6 : decode cX0_stepOrder 6 = .ok (.astore_n 1, 1) := by decide +kernel
theorem dX0_stepOrder_7 : decode cX0_stepOrder 7 = .ok (.aload_n 0, 1) := by decide +kernel
theorem dX0_stepOrder_8 : decode cX0_stepOrder 8 = .ok (.getfield 41, 3) := by decide +kernel
theorem dX0_stepOrder_11 : decode cX0_stepOrder 11 = .ok (.iconst 2, 1) := by decide +kernel
theorem dX0_stepOrder_12 : decode cX0_stepOrder 12 = .ok (.isub, 1) := by decide +kernel
theorem dX0_stepOrder_13 : decode cX0_stepOrder 13 = .ok (.istore_n 2, 1) := by decide +kernel
theorem dX0_stepOrder_14 : decode cX0_stepOrder 14 = .ok (.iload_n 2, 1) := by decide +kernel
theorem dX0_stepOrder_15 : decode cX0_stepOrder 15 = .ok (.ifCond .lt 20, 3) := by decide +kernel
theorem dX0_stepOrder_18 : decode cX0_stepOrder 18 = .ok (.aload_n 1, 1) := by decide +kernel
theorem dX0_stepOrder_19 : decode cX0_stepOrder 19 = .ok (.iload_n 2, 1) := by decide +kernel
theorem dX0_stepOrder_20 : decode cX0_stepOrder 20 = .ok (.iaload, 1) := by decide +kernel
theorem dX0_stepOrder_21 : decode cX0_stepOrder 21 = .ok (.aload_n 1, 1) := by decide +kernel
theorem dX0_stepOrder_22 : decode cX0_stepOrder 22 = .ok (.iload_n 2, 1) := by decide +kernel
theorem dX0_stepOrder_23 : decode cX0_stepOrder 23 = .ok (.iconst 1, 1) := by decide +kernel
theorem dX0_stepOrder_24 : decode cX0_stepOrder 24 = .ok (.iadd, 1) := by decide +kernel
theorem dX0_stepOrder_25 : decode cX0_stepOrder 25 = .ok (.iaload, 1) := by decide +kernel
theorem dX0_stepOrder_26 : decode cX0_stepOrder 26 = .ok (.if_icmp .le 9, 3) := by decide +kernel
theorem dX0_stepOrder_29 : decode cX0_stepOrder 29 = .ok (.iinc 2 (-1), 3) := by decide +kernel
theorem dX0_stepOrder_32 : decode cX0_stepOrder 32 = .ok (.goto (-18), 3) := by decide +kernel
theorem dX0_stepOrder_35 : decode cX0_stepOrder 35 = .ok (.iload_n 2, 1) := by decide +kernel
theorem dX0_stepOrder_36 : decode cX0_stepOrder 36 = .ok (.ifCond .ge 4, 3) := by decide +kernel
theorem dX0_stepOrder_39 : decode cX0_stepOrder 39 = .ok (.return_, 1) := by decide +kernel
theorem dX0_stepOrder_40 : decode cX0_stepOrder 40 = .ok (.aload_n 0, 1) := by decide +kernel
theorem dX0_stepOrder_41 : decode cX0_stepOrder 41 = .ok (.getfield 41, 3) := by decide +kernel
theorem dX0_stepOrder_44 : decode cX0_stepOrder 44 = .ok (.iconst 1, 1) := by decide +kernel
theorem dX0_stepOrder_45 : decode cX0_stepOrder 45 = .ok (.isub, 1) := by decide +kernel
theorem dX0_stepOrder_46 : decode cX0_stepOrder 46 = .ok (.istore_n 3, 1) := by decide +kernel
theorem dX0_stepOrder_47 : decode cX0_stepOrder 47 = .ok (.iload_n 3, 1) := by decide +kernel
theorem dX0_stepOrder_48 : decode cX0_stepOrder 48 = .ok (.iload_n 2, 1) := by decide +kernel
theorem dX0_stepOrder_49 : decode cX0_stepOrder 49 = .ok (.iconst 1, 1) := by decide +kernel
theorem dX0_stepOrder_50 : decode cX0_stepOrder 50 = .ok (.iadd, 1) := by decide +kernel
theorem dX0_stepOrder_51 : decode cX0_stepOrder 51 = .ok (.if_icmp .le 18, 3) := by decide +kernel
theorem dX0_stepOrder_54 : decode cX0_stepOrder 54 = .ok (.aload_n 1, 1) := by decide +kernel
theorem dX0_stepOrder_55 : decode cX0_stepOrder 55 = .ok (.iload_n 3, 1) := by decide +kernel
theorem dX0_stepOrder_56 : decode cX0_stepOrder 56 = .ok (.iaload, 1) := by decide +kernel
theorem dX0_stepOrder_57 : decode cX0_stepOrder 57 = .ok (.aload_n 1, 1) := by decide +kernel
theorem dX0_stepOrder_58 : decode cX0_stepOrder 58 = .ok (.iload_n 2, 1) := by decide +kernel
theorem dX0_stepOrder_59 : decode cX0_stepOrder 59 = .ok (.iaload, 1) := by decide +kernel
theorem dX0_stepOrder_60 : decode cX0_stepOrder 60 = .ok (.if_icmp .ge 9, 3) := by decide +kernel
theorem dX0_stepOrder_63 : decode cX0_stepOrder 63 = .ok (.iinc 3 (-1), 3) := by decide +kernel
theorem dX0_stepOrder_66 : decode cX0_stepOrder 66 = .ok (.goto (-19), 3) := by decide +kernel
theorem dX0_stepOrder_69 : decode cX0_stepOrder 69 = .ok (.aload_n 1, 1) := by decide +kernel
theorem dX0_stepOrder_70 : decode cX0_stepOrder 70 = .ok (.iload_n 2, 1) := by decide +kernel
theorem dX0_stepOrder_71 : decode cX0_stepOrder 71 = .ok (.iload_n 3, 1) := by decide +kernel
theorem dX0_stepOrder_72 : decode cX0_stepOrder 72 = .ok (.invokestatic 54, 3) := by decide +kernel
theorem dX0_stepOrder_75 : decode cX0_stepOrder 75 = .ok (.aload_n 0, 1) := by decide +kernel
theorem dX0_stepOrder_76 : decode cX0_stepOrder 76 = .ok (.getfield 41, 3) := by decide +kernel
theorem dX0_stepOrder_79 : decode cX0_stepOrder 79 = .ok (.iconst 1, 1) := by decide +kernel
theorem dX0_stepOrder_80 : decode cX0_stepOrder 80 = .ok (.isub, 1) := by decide +kernel
theorem dX0_stepOrder_81 : decode cX0_stepOrder 81 = .ok (.istore 4, 2) := by decide +kernel
theorem dX0_stepOrder_83 : decode cX0_stepOrder 83 = .ok (.iload_n 2, 1) := by decide +kernel
theorem dX0_stepOrder_84 : decode cX0_stepOrder 84 = .ok (.iconst 1, 1) := by decide +kernel
theorem dX0_stepOrder_85 : decode cX0_stepOrder 85 = .ok (.iadd, 1) := by decide +kernel
theorem dX0_stepOrder_86 : decode cX0_stepOrder 86 = .ok (.istore 5, 2) := by decide +kernel
theorem dX0_stepOrder_88 : decode cX0_stepOrder 88 = .ok (.iload 5, 2) := by decide +kernel
theorem dX0_stepOrder_90 : decode cX0_stepOrder 90 = .ok (.iload 4, 2) := by decide +kernel
theorem dX0_stepOrder_92 : decode cX0_stepOrder 92 = .ok (.if_icmp .ge 20, 3) := by decide +kernel
theorem dX0_stepOrder_95 : decode cX0_stepOrder 95 = .ok (.aload_n 1, 1) := by decide +kernel
theorem dX0_stepOrder_96 : decode cX0_stepOrder 96 = .ok (.iload 5, 2) := by decide +kernel
theorem dX0_stepOrder_98 : decode cX0_stepOrder 98 = .ok (.iload 4, 2) := by decide +kernel
theorem dX0_stepOrder_100 : decode cX0_stepOrder 100 = .ok (.invokestatic 54, 3) := by decide +kernel
theorem dX0_stepOrder_103 : decode cX0_stepOrder 103 = .ok (.iinc 4 (-1), 3) := by decide +kernel
theorem dX0_stepOrder_106 : decode cX0_stepOrder 106 = .ok (.iinc 5 1, 3) := by decide +kernel
theorem dX0_stepOrder_109 : decode cX0_stepOrder 109 = .ok (.goto (-21), 3) := by decide +kernel
theorem dX0_stepOrder_112 : decode cX0_stepOrder 112 = .ok (.return_, 1) := by decide +kernel
theorem dX0_lay_0 : decode cX0_lay 0 = .ok (.aload_n 0, 1) := by decide +kernel
theorem dX0_lay_1 : decode cX0_lay 1 = .ok (.invokevirtual 58, 3) := by decide +kernel
theorem dX0_lay_4 : decode cX0_lay 4 = .ok (.aload_n 0, 1) := by decide +kernel
theorem dX0_lay_5 : decode cX0_lay 5 = .ok (.iconst 0, 1) := by decide +kernel
theorem dX0_lay_6 : decode cX0_lay 6 = .ok (.putfield 61, 3) := by decide +kernel
theorem dX0_lay_9 : decode cX0_lay 9 = .ok (.aload_n 0, 1) := by decide +kernel
theorem dX0_lay_10 : decode cX0_lay 10 = .ok (.iconst 0, 1) := by decide +kernel
theorem dX0_lay_11 : decode cX0_lay 11 = .ok (.putfield 64, 3) := by decide +kernel
theorem dX0_lay_14 : decode cX0_lay 14 = .ok (.iconst 0, 1) := by decide +kernel
theorem dX0_lay_15 : decode cX0_lay 15 = .ok (.istore_n 1, 1) := by decide +kernel
theorem dX0_lay_16 : decode cX0_lay 16 = .ok (.iload_n 1, 1) := by decide +kernel
theorem dX0_lay_17 : decode cX0_lay 17 = .ok (.aload_n 0, 1) := by decide +kernel
theorem dX0_lay_18 : decode cX0_lay 18 = .ok (.getfield 41, 3) := by decide +kernel
theorem dX0_lay_21 : decode cX0_lay 21 = .ok (.if_icmp .ge 83, 3) := by decide +kernel
theorem dX0_lay_24 : decode cX0_lay 24 = .ok (.aload_n 0, 1) := by decide +kernel
theorem dX0_lay_25 : decode cX0_lay 25 = .ok (.getfield 26, 3) := by decide +kernel
theorem dX0_lay_28 : decode cX0_lay 28 = .ok (.iconst 0, 1) := by decide +kernel
theorem dX0_lay_29 : decode cX0_lay 29 = .ok (.aaload, 1) := by decide +kernel
theorem dX0_lay_30 : decode cX0_lay 30 = .ok (.iload_n 1, 1) := by decide +kernel
theorem dX0_lay_31 : decode cX0_lay 31 = .ok (.iaload, 1) := by decide +kernel
theorem dX0_lay_32 : decode cX0_lay 32 = .ok (.istore_n 2, 1) := by decide +kernel
theorem dX0_lay_33 : decode cX0_lay 33 = .ok (.aload_n 0, 1) := by decide +kernel
theorem dX0_lay_34 : decode cX0_lay 34 = .ok (.getfield 32, 3) := by decide +kernel
theorem dX0_lay_37 : decode cX0_lay 37 = .ok (.iload_n 2, 1) := by decide +kernel
theorem dX0_lay_38 : decode cX0_lay 38 = .ok (.aload_n 0, 1) := by decide +kernel
theorem dX0_lay_39 : decode cX0_lay 39 = .ok (.iload_n 2, 1) := by decide +kernel
theorem dX0_lay_40 : decode cX0_lay 40 = .ok (.invokevirtual 67, 3) := by decide +kernel
theorem dX0_lay_43 : decode cX0_lay 43 = .ok (.iastore, 1) := by decide +kernel
theorem dX0_lay_44 : decode cX0_lay 44 = .ok (.aload_n 0, 1) := by decide +kernel
theorem dX0_lay_45 : decode cX0_lay 45 = .ok (.iload_n 2, 1) := by decide +kernel
theorem dX0_lay_46 : decode cX0_lay 46 = .ok (.iload_n 1, 1) := by decide +kernel
theorem dX0_lay_47 : decode cX0_lay 47 = .ok (.invokevirtual 71, 3) := by decide +kernel
theorem dX0_lay_50 : decode cX0_lay 50 = .ok (.aload_n 0, 1) := by decide +kernel
theorem dX0_lay_51 : decode cX0_lay 51 = .ok (.aload_n 0, 1) := by decide +kernel
theorem dX0_lay_52 : decode cX0_lay 52 = .ok (.getfield 61, 3) := by decide +kernel
theorem dX0_lay_55 : decode cX0_lay 55 = .ok (.aload_n 0, 1) := by decide +kernel
theorem dX0_lay_56 : decode cX0_lay 56 = .ok (.getfield 35, 3) := by decide +kernel
theorem dX0_lay_59 : decode cX0_lay 59 = .ok (.iload_n 2, 1) := by decide +kernel
theorem dX0_lay_60 : decode cX0_lay 60 = .ok (.iaload, 1) := by decide +kernel
theorem dX0_lay_61 : decode cX0_lay 61 = .ok (.aload_n 0, 1) := by decide +kernel
theorem dX0_lay_62 : decode cX0_lay 62 = .ok (.getfield 18, 3) := by decide +kernel
theorem dX0_lay_65 : decode cX0_lay 65 = .ok (.iload_n 2, 1) := by decide +kernel
theorem dX0_lay_66 : decode cX0_lay 66 = .ok (.iaload, 1) := by decide +kernel
theorem dX0_lay_67 : decode cX0_lay 67 = .ok (.iadd, 1) := by decide +kernel
theorem dX0_lay_68 : decode cX0_lay 68 = .ok (.invokestatic 75, 3) := by decide +kernel
theorem dX0_lay_71 : decode cX0_lay 71 = .ok (.putfield 61, 3) := by decide +kernel
theorem dX0_lay_74 : decode cX0_lay 74 = .ok (.aload_n 0, 1) := by decide +kernel
theorem dX0_lay_75 : decode cX0_lay 75 = .ok (.aload_n 0, 1) := by decide +kernel
theorem dX0_lay_76 : decode cX0_lay 76 = .ok (.getfield 64, 3) := by decide +kernel
theorem dX0_lay_79 : decode cX0_lay 79 = .ok (.aload_n 0, 1) := by decide +kernel
theorem dX0_lay_80 : decode cX0_lay 80 = .ok (.getfield 38, 3) := by decide +kernel
theorem dX0_lay_83 : decode cX0_lay 83 = .ok (.iload_n 2, 1) := by decide +kernel
theorem dX0_lay_84 : decode cX0_lay 84 = .ok (.iaload, 1) := by decide +kernel
theorem dX0_lay_85 : decode cX0_lay 85 = .ok (.aload_n 0, 1) := by decide +kernel
theorem dX0_lay_86 : decode cX0_lay 86 = .ok (.getfield 32, 3) := by decide +kernel
theorem dX0_lay_89 : decode cX0_lay 89 = .ok (.iload_n 2, 1) := by decide +kernel
theorem dX0_lay_90 : decode cX0_lay 90 = .ok (.iaload, 1) := by decide +kernel
theorem dX0_lay_91 : decode cX0_lay 91 = .ok (.iadd, 1) := by decide +kernel
theorem dX0_lay_92 : decode cX0_lay 92 = .ok (.invokestatic 75, 3) := by decide +kernel
theorem dX0_lay_95 : decode cX0_lay 95 = .ok (.putfield 64, 3) := by decide +kernel
theorem dX0_lay_98 : decode cX0_lay 98 = .ok (.iinc 1 1, 3) := by decide +kernel
theorem dX0_lay_101 : decode cX0_lay 101 = .ok (.goto (-85), 3) := by decide +kernel
theorem dX0_lay_104 : decode cX0_lay 104 = .ok (.return_, 1) := by decide +kernel
theorem dX0_findPlaces_0 : decode cX0_findPlaces 0 = .ok (.iconst 0, 1) := by decide +kernel
theorem dX0_findPlaces_1 : decode cX0_findPlaces 1 = .ok (.istore_n 1, 1) := by decide +kernel
theorem dX0_findPlaces_2 : decode cX0_findPlaces 2 = .ok (.iload_n 1, 1) := by decide +kernel
theorem dX0_findPlaces_3 : decode cX0_findPlaces 3 = .ok (.aload_n 0, 1) := by decide +kernel
theorem dX0_findPlaces_4 : decode cX0_findPlaces 4 = .ok (.getfield 41, 3) := by decide +kernel
theorem dX0_findPlaces_7 : decode cX0_findPlaces 7 = .ok (.if_icmp .ge 41, 3) := by decide +kernel
theorem dX0_findPlaces_10 : decode cX0_findPlaces 10 = .ok (.aload_n 0, 1) := by decide +kernel
theorem dX0_findPlaces_11 : decode cX0_findPlaces 11 = .ok (.getfield 29, 3) := by decide +kernel
theorem dX0_findPlaces_14 : decode cX0_findPlaces 14 = .ok (.iconst 0, 1) := by decide +kernel
theorem dX0_findPlaces_15 : decode cX0_findPlaces 15 = .ok (.aaload, 1) := by decide +kernel
theorem dX0_findPlaces_16 : decode cX0_findPlaces 16 = .ok (.aload_n 0, 1) := by decide +kernel
theorem dX0_findPlaces_17 : decode cX0_findPlaces 17 = .ok (.getfield 26, 3) := by decide +kernel
theorem dX0_findPlaces_20 : decode cX0_findPlaces 20 = .ok (.iconst 0, 1) := by decide +kernel
theorem dX0_findPlaces_21 : decode cX0_findPlaces 21 = .ok (.aaload, 1) := by decide +kernel
theorem dX0_findPlaces_22 : decode cX0_findPlaces 22 = .ok (.iload_n 1, 1) := by decide +kernel
theorem dX0_findPlaces_23 : decode cX0_findPlaces 23 = .ok (.iaload, 1) := by decide +kernel
theorem dX0_findPlaces_24 : decode cX0_findPlaces 24 = .ok (.iload_n 1, 1) := by decide +kernel
theorem dX0_findPlaces_25 : decode cX0_findPlaces 25 = .ok (.iastore, 1) := by decide +kernel
theorem dX0_findPlaces_26 : decode cX0_findPlaces 26 = .ok (.aload_n 0, 1) := by decide +kernel
theorem dX0_findPlaces_27 : decode cX0_findPlaces 27 = .ok (.getfield 29, 3) := by decide +kernel
theorem dX0_findPlaces_30 : decode cX0_findPlaces 30 = .ok (.iconst 1, 1) := by decide +kernel
theorem dX0_findPlaces_31 : decode cX0_findPlaces 31 = .ok (.aaload, 1) := by decide +kernel
theorem dX0_findPlaces_32 : decode cX0_findPlaces 32 = .ok (.aload_n 0, 1) := by decide +kernel
theorem dX0_findPlaces_33 : decode cX0_findPlaces 33 = .ok (.getfield 26, 3) := by decide +kernel
theorem dX0_findPlaces_36 : decode cX0_findPlaces 36 = .ok (.iconst 1, 1) := by decide +kernel
theorem dX0_findPlaces_37 : decode cX0_findPlaces 37 = .ok (.aaload, 1) := by decide +kernel
theorem dX0_findPlaces_38 : decode cX0_findPlaces 38 = .ok (.iload_n 1, 1) := by decide +kernel
theorem dX0_findPlaces_39 : decode cX0_findPlaces 39 = .ok (.iaload, 1) := by decide +kernel
theorem dX0_findPlaces_40 : decode cX0_findPlaces 40 = .ok (.iload_n 1, 1) := by decide +kernel
theorem dX0_findPlaces_41 : decode cX0_findPlaces 41 = .ok (.iastore, 1) := by decide +kernel
theorem dX0_findPlaces_42 : decode cX0_findPlaces 42 = .ok (.iinc 1 1, 3) := by decide +kernel
theorem dX0_findPlaces_45 : decode cX0_findPlaces 45 = .ok (.goto (-43), 3) := by decide +kernel
theorem dX0_findPlaces_48 : decode cX0_findPlaces 48 = .ok (.return_, 1) := by decide +kernel
theorem dX0_begin_0 : decode cX0_begin 0 = .ok (.iconst 0, 1) := by decide +kernel
theorem dX0_begin_1 : decode cX0_begin 1 = .ok (.istore_n 3, 1) := by decide +kernel
theorem dX0_begin_2 : decode cX0_begin 2 = .ok (.iconst 0, 1) := by decide +kernel
theorem dX0_begin_3 : decode cX0_begin 3 = .ok (.istore 4, 2) := by decide +kernel
theorem dX0_begin_5 : decode cX0_begin 5 = .ok (.iconst 0, 1) := by decide +kernel
theorem dX0_begin_6 : decode cX0_begin 6 = .ok (.istore 5, 2) := by decide +kernel
theorem dX0_begin_8 : decode cX0_begin 8 = .ok (.iload 5, 2) := by decide +kernel
theorem dX0_begin_10 : decode cX0_begin 10 = .ok (.iload_n 2, 1) := by decide +kernel
theorem dX0_begin_11 : decode cX0_begin 11 = .ok (.if_icmp .ge 85, 3) := by decide +kernel
theorem dX0_begin_14 : decode cX0_begin 14 = .ok (.aload_n 0, 1) := by decide +kernel
theorem dX0_begin_15 : decode cX0_begin 15 = .ok (.getfield 26, 3) := by decide +kernel
theorem dX0_begin_18 : decode cX0_begin 18 = .ok (.iconst 0, 1) := by decide +kernel
theorem dX0_begin_19 : decode cX0_begin 19 = .ok (.aaload, 1) := by decide +kernel
theorem dX0_begin_20 : decode cX0_begin 20 = .ok (.iload 5, 2) := by decide +kernel
theorem dX0_begin_22 : decode cX0_begin 22 = .ok (.iaload, 1) := by decide +kernel
theorem dX0_begin_23 : decode cX0_begin 23 = .ok (.istore 6, 2) := by decide +kernel
theorem dX0_begin_25 : decode cX0_begin 25 = .ok (.aload_n 0, 1) := by decide +kernel
theorem dX0_begin_26 : decode cX0_begin 26 = .ok (.getfield 29, 3) := by decide +kernel
theorem dX0_begin_29 : decode cX0_begin 29 = .ok (.iconst 1, 1) := by decide +kernel
theorem dX0_begin_30 : decode cX0_begin 30 = .ok (.aaload, 1) := by decide +kernel
theorem dX0_begin_31 : decode cX0_begin 31 = .ok (.iload 6, 2) := by decide +kernel
theorem dX0_begin_33 : decode cX0_begin 33 = .ok (.iaload, 1) := by decide +kernel
theorem dX0_begin_34 : decode cX0_begin 34 = .ok (.aload_n 0, 1) := by decide +kernel
theorem dX0_begin_35 : decode cX0_begin 35 = .ok (.getfield 29, 3) := by decide +kernel
theorem dX0_begin_38 : decode cX0_begin 38 = .ok (.iconst 1, 1) := by decide +kernel
theorem dX0_begin_39 : decode cX0_begin 39 = .ok (.aaload, 1) := by decide +kernel
theorem dX0_begin_40 : decode cX0_begin 40 = .ok (.iload_n 1, 1) := by decide +kernel
theorem dX0_begin_41 : decode cX0_begin 41 = .ok (.iaload, 1) := by decide +kernel
theorem dX0_begin_42 : decode cX0_begin 42 = .ok (.if_icmp .ge 26, 3) := by decide +kernel
theorem dX0_begin_45 : decode cX0_begin 45 = .ok (.iload_n 3, 1) := by decide +kernel
theorem dX0_begin_46 : decode cX0_begin 46 = .ok (.aload_n 0, 1) := by decide +kernel
theorem dX0_begin_47 : decode cX0_begin 47 = .ok (.getfield 35, 3) := by decide +kernel
theorem dX0_begin_50 : decode cX0_begin 50 = .ok (.iload 6, 2) := by decide +kernel
theorem dX0_begin_52 : decode cX0_begin 52 = .ok (.iaload, 1) := by decide +kernel
theorem dX0_begin_53 : decode cX0_begin 53 = .ok (.aload_n 0, 1) := by decide +kernel
theorem dX0_begin_54 : decode cX0_begin 54 = .ok (.getfield 18, 3) := by decide +kernel
theorem dX0_begin_57 : decode cX0_begin 57 = .ok (.iload 6, 2) := by decide +kernel
theorem dX0_begin_59 : decode cX0_begin 59 = .ok (.iaload, 1) := by decide +kernel
theorem dX0_begin_60 : decode cX0_begin 60 = .ok (.iadd, 1) := by decide +kernel
theorem dX0_begin_61 : decode cX0_begin 61 = .ok (.invokestatic 75, 3) := by decide +kernel
theorem dX0_begin_64 : decode cX0_begin 64 = .ok (.istore_n 3, 1) := by decide +kernel
theorem dX0_begin_65 : decode cX0_begin 65 = .ok (.goto 25, 3) := by decide +kernel
theorem dX0_begin_68 : decode cX0_begin 68 = .ok (.iload 4, 2) := by decide +kernel
theorem dX0_begin_70 : decode cX0_begin 70 = .ok (.aload_n 0, 1) := by decide +kernel
theorem dX0_begin_71 : decode cX0_begin 71 = .ok (.getfield 38, 3) := by decide +kernel
theorem dX0_begin_74 : decode cX0_begin 74 = .ok (.iload 6, 2) := by decide +kernel
theorem dX0_begin_76 : decode cX0_begin 76 = .ok (.iaload, 1) := by decide +kernel
theorem dX0_begin_77 : decode cX0_begin 77 = .ok (.aload_n 0, 1) := by decide +kernel
theorem dX0_begin_78 : decode cX0_begin 78 = .ok (.getfield 32, 3) := by decide +kernel
theorem dX0_begin_81 : decode cX0_begin 81 = .ok (.iload 6, 2) := by decide +kernel
theorem dX0_begin_83 : decode cX0_begin 83 = .ok (.iaload, 1) := by decide +kernel
theorem dX0_begin_84 : decode cX0_begin 84 = .ok (.iadd, 1) := by decide +kernel
theorem dX0_begin_85 : decode cX0_begin 85 = .ok (.invokestatic 75, 3) := by decide +kernel
theorem dX0_begin_88 : decode cX0_begin 88 = .ok (.istore 4, 2) := by decide +kernel
theorem dX0_begin_90 : decode cX0_begin 90 = .ok (.iinc 5 1, 3) := by decide +kernel
theorem dX0_begin_93 : decode cX0_begin 93 = .ok (.goto (-85), 3) := by decide +kernel
theorem dX0_begin_96 : decode cX0_begin 96 = .ok (.aload_n 0, 1) := by decide +kernel
theorem dX0_begin_97 : decode cX0_begin 97 = .ok (.getfield 35, 3) := by decide +kernel
theorem dX0_begin_100 : decode cX0_begin 100 = .ok (.iload_n 1, 1) := by decide +kernel
theorem dX0_begin_101 : decode cX0_begin 101 = .ok (.iload_n 3, 1) := by decide +kernel
theorem dX0_begin_102 : decode cX0_begin 102 = .ok (.iastore, 1) := by decide +kernel
theorem dX0_begin_103 : decode cX0_begin 103 = .ok (.aload_n 0, 1) := by decide +kernel
theorem dX0_begin_104 : decode cX0_begin 104 = .ok (.getfield 38, 3) := by decide +kernel
theorem dX0_begin_107 : decode cX0_begin 107 = .ok (.iload_n 1, 1) := by decide +kernel
theorem dX0_begin_108 : decode cX0_begin 108 = .ok (.iload 4, 2) := by decide +kernel
theorem dX0_begin_110 : decode cX0_begin 110 = .ok (.iastore, 1) := by decide +kernel
theorem dX0_begin_111 : decode cX0_begin 111 = .ok (.return_, 1) := by decide +kernel
theorem dX0_sizeOf_0 : decode cX0_sizeOf 0 = .ok (.aload_n 0, 1) := by decide +kernel
theorem dX0_sizeOf_1 : decode cX0_sizeOf 1 = .ok (.getfield 9, 3) := by decide +kernel
theorem dX0_sizeOf_4 : decode cX0_sizeOf 4 = .ok (.iload_n 1, 1) := by decide +kernel
theorem dX0_sizeOf_5 : decode cX0_sizeOf 5 = .ok (.iaload, 1) := by decide +kernel
theorem dX0_sizeOf_6 : decode cX0_sizeOf 6 = .ok (.lookupswitch 44 #[(1, 35), (2, 26)], 26) := by decide +kernel
theorem dX0_sizeOf_32 : decode cX0_sizeOf 32 = .ok (.iconst 2, 1) := by decide +kernel
theorem dX0_sizeOf_33 : decode cX0_sizeOf 33 = .ok (.aload_n 0, 1) := by decide +kernel
theorem dX0_sizeOf_34 : decode cX0_sizeOf 34 = .ok (.getfield 15, 3) := by decide +kernel
theorem dX0_sizeOf_37 : decode cX0_sizeOf 37 = .ok (.iload_n 1, 1) := by decide +kernel
theorem dX0_sizeOf_38 : decode cX0_sizeOf 38 = .ok (.iaload, 1) := by decide +kernel
theorem dX0_sizeOf_39 : decode cX0_sizeOf 39 = .ok (.imul, 1) := by decide +kernel
theorem dX0_sizeOf_40 : decode cX0_sizeOf 40 = .ok (.ireturn, 1) := by decide +kernel
theorem dX0_sizeOf_41 : decode cX0_sizeOf 41 = .ok (.aload_n 0, 1) := by decide +kernel
theorem dX0_sizeOf_42 : decode cX0_sizeOf 42 = .ok (.getfield 15, 3) := by decide +kernel
theorem dX0_sizeOf_45 : decode cX0_sizeOf 45 = .ok (.iload_n 1, 1) := by decide +kernel
theorem dX0_sizeOf_46 : decode cX0_sizeOf 46 = .ok (.iaload, 1) := by decide +kernel
theorem dX0_sizeOf_47 : decode cX0_sizeOf 47 = .ok (.iconst 1, 1) := by decide +kernel
theorem dX0_sizeOf_48 : decode cX0_sizeOf 48 = .ok (.iadd, 1) := by decide +kernel
theorem dX0_sizeOf_49 : decode cX0_sizeOf 49 = .ok (.ireturn, 1) := by decide +kernel
theorem dX0_sizeOf_50 : decode cX0_sizeOf 50 = .ok (.aload_n 0, 1) := by decide +kernel
theorem dX0_sizeOf_51 : decode cX0_sizeOf 51 = .ok (.getfield 15, 3) := by decide +kernel
theorem dX0_sizeOf_54 : decode cX0_sizeOf 54 = .ok (.iload_n 1, 1) := by decide +kernel
theorem dX0_sizeOf_55 : decode cX0_sizeOf 55 = .ok (.iaload, 1) := by decide +kernel
theorem dX0_sizeOf_56 : decode cX0_sizeOf 56 = .ok (.ireturn, 1) := by decide +kernel
theorem dX0_heightOf_0 : decode cX0_heightOf 0 = .ok (.aload_n 0, 1) := by decide +kernel
theorem dX0_heightOf_1 : decode cX0_heightOf 1 = .ok (.getfield 18, 3) := by decide +kernel
theorem dX0_heightOf_4 : decode cX0_heightOf 4 = .ok (.iload_n 1, 1) := by decide +kernel
theorem dX0_heightOf_5 : decode cX0_heightOf 5 = .ok (.iaload, 1) := by decide +kernel
theorem dX0_heightOf_6 : decode cX0_heightOf 6 = .ok (.istore_n 2, 1) := by decide +kernel
theorem dX0_heightOf_7 : decode cX0_heightOf 7 = .ok (.iload_n 2, 1) := by decide +kernel
theorem dX0_heightOf_8 : decode cX0_heightOf 8 = .ok (.iconst 1, 1) := by decide +kernel
theorem dX0_heightOf_9 : decode cX0_heightOf 9 = .ok (.if_icmp .ge 7, 3) := by decide +kernel
theorem dX0_heightOf_12 : decode cX0_heightOf 12 = .ok (.iconst 0, 1) := by decide +kernel
theorem dX0_heightOf_13 : decode cX0_heightOf 13 = .ok (.goto 14, 3) := by decide +kernel
theorem dX0_heightOf_16 : decode cX0_heightOf 16 = .ok (.aload_n 0, 1) := by decide +kernel
theorem dX0_heightOf_17 : decode cX0_heightOf 17 = .ok (.iload_n 1, 1) := by decide +kernel
theorem dX0_heightOf_18 : decode cX0_heightOf 18 = .ok (.invokevirtual 81, 3) := by decide +kernel
theorem dX0_heightOf_21 : decode cX0_heightOf 21 = .ok (.iload_n 2, 1) := by decide +kernel
theorem dX0_heightOf_22 : decode cX0_heightOf 22 = .ok (.iadd, 1) := by decide +kernel
theorem dX0_heightOf_23 : decode cX0_heightOf 23 = .ok (.iconst 1, 1) := by decide +kernel
theorem dX0_heightOf_24 : decode cX0_heightOf 24 = .ok (.isub, 1) := by decide +kernel
theorem dX0_heightOf_25 : decode cX0_heightOf 25 = .ok (.iload_n 2, 1) := by decide +kernel
theorem dX0_heightOf_26 : decode cX0_heightOf 26 = .ok (.idiv, 1) := by decide +kernel
theorem dX0_heightOf_27 : decode cX0_heightOf 27 = .ok (.ireturn, 1) := by decide +kernel
theorem dX0_isLeft_0 : decode cX0_isLeft 0 = .ok (.aload_n 0, 1) := by decide +kernel
theorem dX0_isLeft_1 : decode cX0_isLeft 1 = .ok (.getfield 29, 3) := by decide +kernel
theorem dX0_isLeft_4 : decode cX0_isLeft 4 = .ok (.iconst 0, 1) := by decide +kernel
theorem dX0_isLeft_5 : decode cX0_isLeft 5 = .ok (.aaload, 1) := by decide +kernel
theorem dX0_isLeft_6 : decode cX0_isLeft 6 = .ok (.iload_n 1, 1) := by decide +kernel
theorem dX0_isLeft_7 : decode cX0_isLeft 7 = .ok (.iaload, 1) := by decide +kernel
theorem dX0_isLeft_8 : decode cX0_isLeft 8 = .ok (.aload_n 0, 1) := by decide +kernel
theorem dX0_isLeft_9 : decode cX0_isLeft 9 = .ok (.getfield 29, 3) := by decide +kernel
theorem dX0_isLeft_12 : decode cX0_isLeft 12 = .ok (.iconst 0, 1) := by decide +kernel
theorem dX0_isLeft_13 : decode cX0_isLeft 13 = .ok (.aaload, 1) := by decide +kernel
theorem dX0_isLeft_14 : decode cX0_isLeft 14 = .ok (.iload_n 2, 1) := by decide +kernel
theorem dX0_isLeft_15 : decode cX0_isLeft 15 = .ok (.iaload, 1) := by decide +kernel
theorem dX0_isLeft_16 : decode cX0_isLeft 16 = .ok (.if_icmp .ge 26, 3) := by decide +kernel
theorem dX0_isLeft_19 : decode cX0_isLeft 19 = .ok (.aload_n 0, 1) := by decide +kernel
theorem dX0_isLeft_20 : decode cX0_isLeft 20 = .ok (.getfield 29, 3) := by decide +kernel
theorem dX0_isLeft_23 : decode cX0_isLeft 23 = .ok (.iconst 1, 1) := by decide +kernel
theorem dX0_isLeft_24 : decode cX0_isLeft 24 = .ok (.aaload, 1) := by decide +kernel
theorem dX0_isLeft_25 : decode cX0_isLeft 25 = .ok (.iload_n 1, 1) := by decide +kernel
theorem dX0_isLeft_26 : decode cX0_isLeft 26 = .ok (.iaload, 1) := by decide +kernel
theorem dX0_isLeft_27 : decode cX0_isLeft 27 = .ok (.aload_n 0, 1) := by decide +kernel
theorem dX0_isLeft_28 : decode cX0_isLeft 28 = .ok (.getfield 29, 3) := by decide +kernel
theorem dX0_isLeft_31 : decode cX0_isLeft 31 = .ok (.iconst 1, 1) := by decide +kernel
theorem dX0_isLeft_32 : decode cX0_isLeft 32 = .ok (.aaload, 1) := by decide +kernel
theorem dX0_isLeft_33 : decode cX0_isLeft 33 = .ok (.iload_n 2, 1) := by decide +kernel
theorem dX0_isLeft_34 : decode cX0_isLeft 34 = .ok (.iaload, 1) := by decide +kernel
theorem dX0_isLeft_35 : decode cX0_isLeft 35 = .ok (.if_icmp .ge 7, 3) := by decide +kernel
theorem dX0_isLeft_38 : decode cX0_isLeft 38 = .ok (.iconst 1, 1) := by decide +kernel
theorem dX0_isLeft_39 : decode cX0_isLeft 39 = .ok (.goto 4, 3) := by decide +kernel
theorem dX0_isLeft_42 : decode cX0_isLeft 42 = .ok (.iconst 0, 1) := by decide +kernel
theorem dX0_isLeft_43 : decode cX0_isLeft 43 = .ok (.ireturn, 1) := by decide +kernel
theorem dX0_isAbove_0 : decode cX0_isAbove 0 = .ok (.aload_n 0, 1) := by decide +kernel
theorem dX0_isAbove_1 : decode cX0_isAbove 1 = .ok (.getfield 29, 3) := by decide +kernel
theorem dX0_isAbove_4 : decode cX0_isAbove 4 = .ok (.iconst 0, 1) := by decide +kernel
theorem dX0_isAbove_5 : decode cX0_isAbove 5 = .ok (.aaload, 1) := by decide +kernel
theorem dX0_isAbove_6 : decode cX0_isAbove 6 = .ok (.iload_n 1, 1) := by decide +kernel
theorem dX0_isAbove_7 : decode cX0_isAbove 7 = .ok (.iaload, 1) := by decide +kernel
theorem dX0_isAbove_8 : decode cX0_isAbove 8 = .ok (.aload_n 0, 1) := by decide +kernel
theorem dX0_isAbove_9 : decode cX0_isAbove 9 = .ok (.getfield 29, 3) := by decide +kernel
theorem dX0_isAbove_12 : decode cX0_isAbove 12 = .ok (.iconst 0, 1) := by decide +kernel
theorem dX0_isAbove_13 : decode cX0_isAbove 13 = .ok (.aaload, 1) := by decide +kernel
theorem dX0_isAbove_14 : decode cX0_isAbove 14 = .ok (.iload_n 2, 1) := by decide +kernel
theorem dX0_isAbove_15 : decode cX0_isAbove 15 = .ok (.iaload, 1) := by decide +kernel
theorem dX0_isAbove_16 : decode cX0_isAbove 16 = .ok (.if_icmp .ge 26, 3) := by decide +kernel
theorem dX0_isAbove_19 : decode cX0_isAbove 19 = .ok (.aload_n 0, 1) := by decide +kernel
theorem dX0_isAbove_20 : decode cX0_isAbove 20 = .ok (.getfield 29, 3) := by decide +kernel
theorem dX0_isAbove_23 : decode cX0_isAbove 23 = .ok (.iconst 1, 1) := by decide +kernel
theorem dX0_isAbove_24 : decode cX0_isAbove 24 = .ok (.aaload, 1) := by decide +kernel
theorem dX0_isAbove_25 : decode cX0_isAbove 25 = .ok (.iload_n 1, 1) := by decide +kernel
theorem dX0_isAbove_26 : decode cX0_isAbove 26 = .ok (.iaload, 1) := by decide +kernel
theorem dX0_isAbove_27 : decode cX0_isAbove 27 = .ok (.aload_n 0, 1) := by decide +kernel
theorem dX0_isAbove_28 : decode cX0_isAbove 28 = .ok (.getfield 29, 3) := by decide +kernel
theorem dX0_isAbove_31 : decode cX0_isAbove 31 = .ok (.iconst 1, 1) := by decide +kernel
theorem dX0_isAbove_32 : decode cX0_isAbove 32 = .ok (.aaload, 1) := by decide +kernel
theorem dX0_isAbove_33 : decode cX0_isAbove 33 = .ok (.iload_n 2, 1) := by decide +kernel
theorem dX0_isAbove_34 : decode cX0_isAbove 34 = .ok (.iaload, 1) := by decide +kernel
theorem dX0_isAbove_35 : decode cX0_isAbove 35 = .ok (.if_icmp .le 7, 3) := by decide +kernel
theorem dX0_isAbove_38 : decode cX0_isAbove 38 = .ok (.iconst 1, 1) := by decide +kernel
theorem dX0_isAbove_39 : decode cX0_isAbove 39 = .ok (.goto 4, 3) := by decide +kernel
theorem dX0_isAbove_42 : decode cX0_isAbove 42 = .ok (.iconst 0, 1) := by decide +kernel
theorem dX0_isAbove_43 : decode cX0_isAbove 43 = .ok (.ireturn, 1) := by decide +kernel
theorem dX0_leftOf_0 : decode cX0_leftOf 0 = .ok (.iconst 0, 1) := by decide +kernel
theorem dX0_leftOf_1 : decode cX0_leftOf 1 = .ok (.istore_n 2, 1) := by decide +kernel
theorem dX0_leftOf_2 : decode cX0_leftOf 2 = .ok (.iconst 0, 1) := by decide +kernel
theorem dX0_leftOf_3 : decode cX0_leftOf 3 = .ok (.istore_n 3, 1) := by decide +kernel
theorem dX0_leftOf_4 : decode cX0_leftOf 4 = .ok (.iload_n 3, 1) := by decide +kernel
theorem dX0_leftOf_5 : decode cX0_leftOf 5 = .ok (.aload_n 0, 1) := by decide +kernel
theorem dX0_leftOf_6 : decode cX0_leftOf 6 = .ok (.getfield 41, 3) := by decide +kernel
theorem dX0_leftOf_9 : decode cX0_leftOf 9 = .ok (.if_icmp .ge 24, 3) := by decide +kernel
theorem dX0_leftOf_12 : decode cX0_leftOf 12 = .ok (.aload_n 0, 1) := by decide +kernel
theorem dX0_leftOf_13 : decode cX0_leftOf 13 = .ok (.iload_n 3, 1) := by decide +kernel
theorem dX0_leftOf_14 : decode cX0_leftOf 14 = .ok (.iload_n 1, 1) := by decide +kernel
theorem dX0_leftOf_15 : decode cX0_leftOf 15 = .ok (.invokevirtual 84, 3) := by decide +kernel
theorem dX0_leftOf_18 : decode cX0_leftOf 18 = .ok (.ifCond .eq 9, 3) := by decide +kernel
theorem dX0_leftOf_21 : decode cX0_leftOf 21 = .ok (.iload_n 2, 1) := by decide +kernel
theorem dX0_leftOf_22 : decode cX0_leftOf 22 = .ok (.iconst 1, 1) := by decide +kernel
theorem dX0_leftOf_23 : decode cX0_leftOf 23 = .ok (.iload_n 3, 1) := by decide +kernel
theorem dX0_leftOf_24 : decode cX0_leftOf 24 = .ok (.ishl, 1) := by decide +kernel
theorem dX0_leftOf_25 : decode cX0_leftOf 25 = .ok (.ior, 1) := by decide +kernel
theorem dX0_leftOf_26 : decode cX0_leftOf 26 = .ok (.istore_n 2, 1) := by decide +kernel
theorem dX0_leftOf_27 : decode cX0_leftOf 27 = .ok (.iinc 3 1, 3) := by decide +kernel
theorem dX0_leftOf_30 : decode cX0_leftOf 30 = .ok (.goto (-26), 3) := by decide +kernel
theorem dX0_leftOf_33 : decode cX0_leftOf 33 = .ok (.iload_n 2, 1) := by decide +kernel
theorem dX0_leftOf_34 : decode cX0_leftOf 34 = .ok (.ireturn, 1) := by decide +kernel
theorem dX0_aboveOf_0 : decode cX0_aboveOf 0 = .ok (.iconst 0, 1) := by decide +kernel
theorem dX0_aboveOf_1 : decode cX0_aboveOf 1 = .ok (.istore_n 2, 1) := by decide +kernel
theorem dX0_aboveOf_2 : decode cX0_aboveOf 2 = .ok (.iconst 0, 1) := by decide +kernel
theorem dX0_aboveOf_3 : decode cX0_aboveOf 3 = .ok (.istore_n 3, 1) := by decide +kernel
theorem dX0_aboveOf_4 : decode cX0_aboveOf 4 = .ok (.iload_n 3, 1) := by decide +kernel
theorem dX0_aboveOf_5 : decode cX0_aboveOf 5 = .ok (.aload_n 0, 1) := by decide +kernel
theorem dX0_aboveOf_6 : decode cX0_aboveOf 6 = .ok (.getfield 41, 3) := by decide +kernel
theorem dX0_aboveOf_9 : decode cX0_aboveOf 9 = .ok (.if_icmp .ge 24, 3) := by decide +kernel
theorem dX0_aboveOf_12 : decode cX0_aboveOf 12 = .ok (.aload_n 0, 1) := by decide +kernel
theorem dX0_aboveOf_13 : decode cX0_aboveOf 13 = .ok (.iload_n 3, 1) := by decide +kernel
theorem dX0_aboveOf_14 : decode cX0_aboveOf 14 = .ok (.iload_n 1, 1) := by decide +kernel
theorem dX0_aboveOf_15 : decode cX0_aboveOf 15 = .ok (.invokevirtual 88, 3) := by decide +kernel
theorem dX0_aboveOf_18 : decode cX0_aboveOf 18 = .ok (.ifCond .eq 9, 3) := by decide +kernel
theorem dX0_aboveOf_21 : decode cX0_aboveOf 21 = .ok (.iload_n 2, 1) := by decide +kernel
theorem dX0_aboveOf_22 : decode cX0_aboveOf 22 = .ok (.iconst 1, 1) := by decide +kernel
theorem dX0_aboveOf_23 : decode cX0_aboveOf 23 = .ok (.iload_n 3, 1) := by decide +kernel
theorem dX0_aboveOf_24 : decode cX0_aboveOf 24 = .ok (.ishl, 1) := by decide +kernel
theorem dX0_aboveOf_25 : decode cX0_aboveOf 25 = .ok (.ior, 1) := by decide +kernel
theorem dX0_aboveOf_26 : decode cX0_aboveOf 26 = .ok (.istore_n 2, 1) := by decide +kernel
theorem dX0_aboveOf_27 : decode cX0_aboveOf 27 = .ok (.iinc 3 1, 3) := by decide +kernel
theorem dX0_aboveOf_30 : decode cX0_aboveOf 30 = .ok (.goto (-26), 3) := by decide +kernel
theorem dX0_aboveOf_33 : decode cX0_aboveOf 33 = .ok (.iload_n 2, 1) := by decide +kernel
theorem dX0_aboveOf_34 : decode cX0_aboveOf 34 = .ok (.ireturn, 1) := by decide +kernel
theorem dX0_touching_0 : decode cX0_touching 0 = .ok (.iconst 0, 1) := by decide +kernel
theorem dX0_touching_1 : decode cX0_touching 1 = .ok (.istore_n 2, 1) := by decide +kernel
theorem dX0_touching_2 : decode cX0_touching 2 = .ok (.iconst 0, 1) := by decide +kernel
theorem dX0_touching_3 : decode cX0_touching 3 = .ok (.istore_n 3, 1) := by decide +kernel
theorem dX0_touching_4 : decode cX0_touching 4 = .ok (.iload_n 3, 1) := by decide +kernel
theorem dX0_touching_5 : decode cX0_touching 5 = .ok (.aload_n 0, 1) := by decide +kernel
theorem dX0_touching_6 : decode cX0_touching 6 = .ok (.getfield 41, 3) := by decide +kernel
theorem dX0_touching_9 : decode cX0_touching 9 = .ok (.if_icmp .ge 24, 3) := by decide +kernel
theorem dX0_touching_12 : decode cX0_touching 12 = .ok (.aload_n 0, 1) := by decide +kernel
theorem dX0_touching_13 : decode cX0_touching 13 = .ok (.iload_n 1, 1) := by decide +kernel
theorem dX0_touching_14 : decode cX0_touching 14 = .ok (.iload_n 3, 1) := by decide +kernel
theorem dX0_touching_15 : decode cX0_touching 15 = .ok (.invokevirtual 91, 3) := by decide +kernel
theorem dX0_touching_18 : decode cX0_touching 18 = .ok (.ifCond .eq 9, 3) := by decide +kernel
theorem dX0_touching_21 : decode cX0_touching 21 = .ok (.iload_n 2, 1) := by decide +kernel
theorem dX0_touching_22 : decode cX0_touching 22 = .ok (.iconst 1, 1) := by decide +kernel
theorem dX0_touching_23 : decode cX0_touching 23 = .ok (.iload_n 3, 1) := by decide +kernel
theorem dX0_touching_24 : decode cX0_touching 24 = .ok (.ishl, 1) := by decide +kernel
theorem dX0_touching_25 : decode cX0_touching 25 = .ok (.ior, 1) := by decide +kernel
theorem dX0_touching_26 : decode cX0_touching 26 = .ok (.istore_n 2, 1) := by decide +kernel
theorem dX0_touching_27 : decode cX0_touching 27 = .ok (.iinc 3 1, 3) := by decide +kernel
theorem dX0_touching_30 : decode cX0_touching 30 = .ok (.goto (-26), 3) := by decide +kernel
theorem dX0_touching_33 : decode cX0_touching 33 = .ok (.iload_n 2, 1) := by decide +kernel
theorem dX0_touching_34 : decode cX0_touching 34 = .ok (.ireturn, 1) := by decide +kernel
theorem dX0_touchingTwos_0 : decode cX0_touchingTwos 0 = .ok (.iconst 0, 1) := by decide +kernel
theorem dX0_touchingTwos_1 : decode cX0_touchingTwos 1 = .ok (.istore_n 1, 1) := by decide +kernel
theorem dX0_touchingTwos_2 : decode cX0_touchingTwos 2 = .ok (.iconst 0, 1) := by decide +kernel
theorem dX0_touchingTwos_3 : decode cX0_touchingTwos 3 = .ok (.istore_n 2, 1) := by decide +kernel
theorem dX0_touchingTwos_4 : decode cX0_touchingTwos 4 = .ok (.iload_n 2, 1) := by decide +kernel
theorem dX0_touchingTwos_5 : decode cX0_touchingTwos 5 = .ok (.aload_n 0, 1) := by decide +kernel
theorem dX0_touchingTwos_6 : decode cX0_touchingTwos 6 = .ok (.getfield 41, 3) := by decide +kernel
theorem dX0_touchingTwos_9 : decode cX0_touchingTwos 9 = .ok (.if_icmp .ge 20, 3) := by decide +kernel
theorem dX0_touchingTwos_12 : decode cX0_touchingTwos 12 = .ok (.iload_n 1, 1) := by decide +kernel
theorem dX0_touchingTwos_13 : decode cX0_touchingTwos 13 = .ok (.aload_n 0, 1) := by decide +kernel
theorem dX0_touchingTwos_14 : decode cX0_touchingTwos 14 = .ok (.iload_n 2, 1) := by decide +kernel
theorem dX0_touchingTwos_15 : decode cX0_touchingTwos 15 = .ok (.invokevirtual 94, 3) := by decide +kernel
theorem dX0_touchingTwos_18 : decode cX0_touchingTwos 18 = .ok (.invokestatic 97, 3) := by decide +kernel
theorem dX0_touchingTwos_21 : decode cX0_touchingTwos 21 = .ok (.iadd, 1) := by decide +kernel
theorem dX0_touchingTwos_22 : decode cX0_touchingTwos 22 = .ok (.istore_n 1, 1) := by decide +kernel
theorem dX0_touchingTwos_23 : decode cX0_touchingTwos 23 = .ok (.iinc 2 1, 3) := by decide +kernel
theorem dX0_touchingTwos_26 : decode cX0_touchingTwos 26 = .ok (.goto (-22), 3) := by decide +kernel
theorem dX0_touchingTwos_29 : decode cX0_touchingTwos 29 = .ok (.iload_n 1, 1) := by decide +kernel
theorem dX0_touchingTwos_30 : decode cX0_touchingTwos 30 = .ok (.iconst 2, 1) := by decide +kernel
theorem dX0_touchingTwos_31 : decode cX0_touchingTwos 31 = .ok (.idiv, 1) := by decide +kernel
theorem dX0_touchingTwos_32 : decode cX0_touchingTwos 32 = .ok (.ireturn, 1) := by decide +kernel
theorem dX0_touch_0 : decode cX0_touch 0 = .ok (.aload_n 0, 1) := by decide +kernel
theorem dX0_touch_1 : decode cX0_touch 1 = .ok (.getfield 35, 3) := by decide +kernel
theorem dX0_touch_4 : decode cX0_touch 4 = .ok (.iload_n 1, 1) := by decide +kernel
theorem dX0_touch_5 : decode cX0_touch 5 = .ok (.iaload, 1) := by decide +kernel
theorem dX0_touch_6 : decode cX0_touch 6 = .ok (.aload_n 0, 1) := by decide +kernel
theorem dX0_touch_7 : decode cX0_touch 7 = .ok (.getfield 18, 3) := by decide +kernel
theorem dX0_touch_10 : decode cX0_touch 10 = .ok (.iload_n 1, 1) := by decide +kernel
theorem dX0_touch_11 : decode cX0_touch 11 = .ok (.iaload, 1) := by decide +kernel
theorem dX0_touch_12 : decode cX0_touch 12 = .ok (.aload_n 0, 1) := by decide +kernel
theorem dX0_touch_13 : decode cX0_touch 13 = .ok (.getfield 35, 3) := by decide +kernel
theorem dX0_touch_16 : decode cX0_touch 16 = .ok (.iload_n 2, 1) := by decide +kernel
theorem dX0_touch_17 : decode cX0_touch 17 = .ok (.iaload, 1) := by decide +kernel
theorem dX0_touch_18 : decode cX0_touch 18 = .ok (.aload_n 0, 1) := by decide +kernel
theorem dX0_touch_19 : decode cX0_touch 19 = .ok (.getfield 18, 3) := by decide +kernel
theorem dX0_touch_22 : decode cX0_touch 22 = .ok (.iload_n 2, 1) := by decide +kernel
theorem dX0_touch_23 : decode cX0_touch 23 = .ok (.iaload, 1) := by decide +kernel
theorem dX0_touch_24 : decode cX0_touch 24 = .ok (.invokestatic 102, 3) := by decide +kernel
theorem dX0_touch_27 : decode cX0_touch 27 = .ok (.ifCond .eq 33, 3) := by decide +kernel
theorem dX0_touch_30 : decode cX0_touch 30 = .ok (.aload_n 0, 1) := by decide +kernel
theorem dX0_touch_31 : decode cX0_touch 31 = .ok (.getfield 38, 3) := by decide +kernel
theorem dX0_touch_34 : decode cX0_touch 34 = .ok (.iload_n 1, 1) := by decide +kernel
theorem dX0_touch_35 : decode cX0_touch 35 = .ok (.iaload, 1) := by decide +kernel
theorem dX0_touch_36 : decode cX0_touch 36 = .ok (.aload_n 0, 1) := by decide +kernel
theorem dX0_touch_37 : decode cX0_touch 37 = .ok (.getfield 32, 3) := by decide +kernel
theorem dX0_touch_40 : decode cX0_touch 40 = .ok (.iload_n 1, 1) := by decide +kernel
theorem dX0_touch_41 : decode cX0_touch 41 = .ok (.iaload, 1) := by decide +kernel
theorem dX0_touch_42 : decode cX0_touch 42 = .ok (.aload_n 0, 1) := by decide +kernel
theorem dX0_touch_43 : decode cX0_touch 43 = .ok (.getfield 38, 3) := by decide +kernel
theorem dX0_touch_46 : decode cX0_touch 46 = .ok (.iload_n 2, 1) := by decide +kernel
theorem dX0_touch_47 : decode cX0_touch 47 = .ok (.iaload, 1) := by decide +kernel
theorem dX0_touch_48 : decode cX0_touch 48 = .ok (.aload_n 0, 1) := by decide +kernel
theorem dX0_touch_49 : decode cX0_touch 49 = .ok (.getfield 32, 3) := by decide +kernel
theorem dX0_touch_52 : decode cX0_touch 52 = .ok (.iload_n 2, 1) := by decide +kernel
theorem dX0_touch_53 : decode cX0_touch 53 = .ok (.iaload, 1) := by decide +kernel
theorem dX0_touch_54 : decode cX0_touch 54 = .ok (.invokestatic 106, 3) := by decide +kernel
theorem dX0_touch_57 : decode cX0_touch 57 = .ok (.ifCond .ne 63, 3) := by decide +kernel
theorem dX0_touch_60 : decode cX0_touch 60 = .ok (.aload_n 0, 1) := by decide +kernel
theorem dX0_touch_61 : decode cX0_touch 61 = .ok (.getfield 38, 3) := by decide +kernel
theorem dX0_touch_64 : decode cX0_touch 64 = .ok (.iload_n 1, 1) := by decide +kernel
theorem dX0_touch_65 : decode cX0_touch 65 = .ok (.iaload, 1) := by decide +kernel
theorem dX0_touch_66 : decode cX0_touch 66 = .ok (.aload_n 0, 1) := by decide +kernel
theorem dX0_touch_67 : decode cX0_touch 67 = .ok (.getfield 32, 3) := by decide +kernel
theorem dX0_touch_70 : decode cX0_touch 70 = .ok (.iload_n 1, 1) := by decide +kernel
theorem dX0_touch_71 : decode cX0_touch 71 = .ok (.iaload, 1) := by decide +kernel
theorem dX0_touch_72 : decode cX0_touch 72 = .ok (.aload_n 0, 1) := by decide +kernel
theorem dX0_touch_73 : decode cX0_touch 73 = .ok (.getfield 38, 3) := by decide +kernel
theorem dX0_touch_76 : decode cX0_touch 76 = .ok (.iload_n 2, 1) := by decide +kernel
theorem dX0_touch_77 : decode cX0_touch 77 = .ok (.iaload, 1) := by decide +kernel
theorem dX0_touch_78 : decode cX0_touch 78 = .ok (.aload_n 0, 1) := by decide +kernel
theorem dX0_touch_79 : decode cX0_touch 79 = .ok (.getfield 32, 3) := by decide +kernel
theorem dX0_touch_82 : decode cX0_touch 82 = .ok (.iload_n 2, 1) := by decide +kernel
theorem dX0_touch_83 : decode cX0_touch 83 = .ok (.iaload, 1) := by decide +kernel
theorem dX0_touch_84 : decode cX0_touch 84 = .ok (.invokestatic 102, 3) := by decide +kernel
theorem dX0_touch_87 : decode cX0_touch 87 = .ok (.ifCond .eq 37, 3) := by decide +kernel
theorem dX0_touch_90 : decode cX0_touch 90 = .ok (.aload_n 0, 1) := by decide +kernel
theorem dX0_touch_91 : decode cX0_touch 91 = .ok (.getfield 35, 3) := by decide +kernel
theorem dX0_touch_94 : decode cX0_touch 94 = .ok (.iload_n 1, 1) := by decide +kernel
theorem dX0_touch_95 : decode cX0_touch 95 = .ok (.iaload, 1) := by decide +kernel
theorem dX0_touch_96 : decode cX0_touch 96 = .ok (.aload_n 0, 1) := by decide +kernel
theorem dX0_touch_97 : decode cX0_touch 97 = .ok (.getfield 18, 3) := by decide +kernel
theorem dX0_touch_100 : decode cX0_touch 100 = .ok (.iload_n 1, 1) := by decide +kernel
theorem dX0_touch_101 : decode cX0_touch 101 = .ok (.iaload, 1) := by decide +kernel
theorem dX0_touch_102 : decode cX0_touch 102 = .ok (.aload_n 0, 1) := by decide +kernel
theorem dX0_touch_103 : decode cX0_touch 103 = .ok (.getfield 35, 3) := by decide +kernel
theorem dX0_touch_106 : decode cX0_touch 106 = .ok (.iload_n 2, 1) := by decide +kernel
theorem dX0_touch_107 : decode cX0_touch 107 = .ok (.iaload, 1) := by decide +kernel
theorem dX0_touch_108 : decode cX0_touch 108 = .ok (.aload_n 0, 1) := by decide +kernel
theorem dX0_touch_109 : decode cX0_touch 109 = .ok (.getfield 18, 3) := by decide +kernel
theorem dX0_touch_112 : decode cX0_touch 112 = .ok (.iload_n 2, 1) := by decide +kernel
theorem dX0_touch_113 : decode cX0_touch 113 = .ok (.iaload, 1) := by decide +kernel
theorem dX0_touch_114 : decode cX0_touch 114 = .ok (.invokestatic 106, 3) := by decide +kernel
theorem dX0_touch_117 : decode cX0_touch 117 = .ok (.ifCond .eq 7, 3) := by decide +kernel
theorem dX0_touch_120 : decode cX0_touch 120 = .ok (.iconst 1, 1) := by decide +kernel
theorem dX0_touch_121 : decode cX0_touch 121 = .ok (.goto 4, 3) := by decide +kernel
theorem dX0_touch_124 : decode cX0_touch 124 = .ok (.iconst 0, 1) := by decide +kernel
theorem dX0_touch_125 : decode cX0_touch 125 = .ok (.ireturn, 1) := by decide +kernel
theorem dX0_meet_0 : decode cX0_meet 0 = .ok (.iload_n 0, 1) := by decide +kernel
theorem dX0_meet_1 : decode cX0_meet 1 = .ok (.iload_n 1, 1) := by decide +kernel
theorem dX0_meet_2 : decode cX0_meet 2 = .ok (.iadd, 1) := by decide +kernel
theorem dX0_meet_3 : decode cX0_meet 3 = .ok (.iload_n 2, 1) := by decide +kernel
theorem dX0_meet_4 : decode cX0_meet 4 = .ok (.if_icmp .eq 10, 3) := by decide +kernel
theorem dX0_meet_7 : decode cX0_meet 7 = .ok (.iload_n 2, 1) := by decide +kernel
theorem dX0_meet_8 : decode cX0_meet 8 = .ok (.iload_n 3, 1) := by decide +kernel
theorem dX0_meet_9 : decode cX0_meet 9 = .ok (.iadd, 1) := by decide +kernel
theorem dX0_meet_10 : decode cX0_meet 10 = .ok (.iload_n 0, 1) := by decide +kernel
theorem dX0_meet_11 : decode cX0_meet 11 = .ok (.if_icmp .ne 7, 3) := by decide +kernel
theorem dX0_meet_14 : decode cX0_meet 14 = .ok (.iconst 1, 1) := by decide +kernel
theorem dX0_meet_15 : decode cX0_meet 15 = .ok (.goto 4, 3) := by decide +kernel
theorem dX0_meet_18 : decode cX0_meet 18 = .ok (.iconst 0, 1) := by decide +kernel
theorem dX0_meet_19 : decode cX0_meet 19 = .ok (.ireturn, 1) := by decide +kernel
theorem dX0_share_0 : decode cX0_share 0 = .ok (.iload_n 0, 1) := by decide +kernel
theorem dX0_share_1 : decode cX0_share 1 = .ok (.iload_n 2, 1) := by decide +kernel
theorem dX0_share_2 : decode cX0_share 2 = .ok (.iload_n 3, 1) := by decide +kernel
theorem dX0_share_3 : decode cX0_share 3 = .ok (.iadd, 1) := by decide +kernel
theorem dX0_share_4 : decode cX0_share 4 = .ok (.if_icmp .ge 14, 3) := by decide +kernel
theorem dX0_share_7 : decode cX0_share 7 = .ok (.iload_n 2, 1) := by decide +kernel
theorem dX0_share_8 : decode cX0_share 8 = .ok (.iload_n 0, 1) := by decide +kernel
theorem dX0_share_9 : decode cX0_share 9 = .ok (.iload_n 1, 1) := by decide +kernel
theorem dX0_share_10 : decode cX0_share 10 = .ok (.iadd, 1) := by decide +kernel
theorem dX0_share_11 : decode cX0_share 11 = .ok (.if_icmp .ge 7, 3) := by decide +kernel
theorem dX0_share_14 : decode cX0_share 14 = .ok (.iconst 1, 1) := by decide +kernel
theorem dX0_share_15 : decode cX0_share 15 = .ok (.goto 4, 3) := by decide +kernel
theorem dX0_share_18 : decode cX0_share 18 = .ok (.iconst 0, 1) := by decide +kernel
theorem dX0_share_19 : decode cX0_share 19 = .ok (.ireturn, 1) := by decide +kernel
theorem dX0_waste_0 : decode cX0_waste 0 = .ok (.iconst 0, 1) := by decide +kernel
theorem dX0_waste_1 : decode cX0_waste 1 = .ok (.istore_n 1, 1) := by decide +kernel
theorem dX0_waste_2 : decode cX0_waste 2 = .ok (.iconst 0, 1) := by decide +kernel
theorem dX0_waste_3 : decode cX0_waste 3 = .ok (.istore_n 2, 1) := by decide +kernel
theorem dX0_waste_4 : decode cX0_waste 4 = .ok (.iload_n 2, 1) := by decide +kernel
theorem dX0_waste_5 : decode cX0_waste 5 = .ok (.aload_n 0, 1) := by decide +kernel
theorem dX0_waste_6 : decode cX0_waste 6 = .ok (.getfield 41, 3) := by decide +kernel
theorem dX0_waste_9 : decode cX0_waste 9 = .ok (.if_icmp .ge 25, 3) := by decide +kernel
theorem dX0_waste_12 : decode cX0_waste 12 = .ok (.iload_n 1, 1) := by decide +kernel
theorem dX0_waste_13 : decode cX0_waste 13 = .ok (.aload_n 0, 1) := by decide +kernel
theorem dX0_waste_14 : decode cX0_waste 14 = .ok (.getfield 18, 3) := by decide +kernel
theorem dX0_waste_17 : decode cX0_waste 17 = .ok (.iload_n 2, 1) := by decide +kernel
theorem dX0_waste_18 : decode cX0_waste 18 = .ok (.iaload, 1) := by decide +kernel
theorem dX0_waste_19 : decode cX0_waste 19 = .ok (.aload_n 0, 1) := by decide +kernel
theorem dX0_waste_20 : decode cX0_waste 20 = .ok (.getfield 32, 3) := by decide +kernel
theorem dX0_waste_23 : decode cX0_waste 23 = .ok (.iload_n 2, 1) := by decide +kernel
theorem dX0_waste_24 : decode cX0_waste 24 = .ok (.iaload, 1) := by decide +kernel
theorem dX0_waste_25 : decode cX0_waste 25 = .ok (.imul, 1) := by decide +kernel
theorem dX0_waste_26 : decode cX0_waste 26 = .ok (.iadd, 1) := by decide +kernel
theorem dX0_waste_27 : decode cX0_waste 27 = .ok (.istore_n 1, 1) := by decide +kernel
theorem dX0_waste_28 : decode cX0_waste 28 = .ok (.iinc 2 1, 3) := by decide +kernel
theorem dX0_waste_31 : decode cX0_waste 31 = .ok (.goto (-27), 3) := by decide +kernel
theorem dX0_waste_34 : decode cX0_waste 34 = .ok (.aload_n 0, 1) := by decide +kernel
theorem dX0_waste_35 : decode cX0_waste 35 = .ok (.getfield 61, 3) := by decide +kernel
theorem dX0_waste_38 : decode cX0_waste 38 = .ok (.aload_n 0, 1) := by decide +kernel
theorem dX0_waste_39 : decode cX0_waste 39 = .ok (.getfield 64, 3) := by decide +kernel
theorem dX0_waste_42 : decode cX0_waste 42 = .ok (.imul, 1) := by decide +kernel
theorem dX0_waste_43 : decode cX0_waste 43 = .ok (.iload_n 1, 1) := by decide +kernel
theorem dX0_waste_44 : decode cX0_waste 44 = .ok (.isub, 1) := by decide +kernel
theorem dX0_waste_45 : decode cX0_waste 45 = .ok (.ireturn, 1) := by decide +kernel
theorem dX0_isCritical_0 : decode cX0_isCritical 0 = .ok (.aload_n 0, 1) := by decide +kernel
theorem dX0_isCritical_1 : decode cX0_isCritical 1 = .ok (.getfield 61, 3) := by decide +kernel
theorem dX0_isCritical_4 : decode cX0_isCritical 4 = .ok (.istore_n 2, 1) := by decide +kernel
theorem dX0_isCritical_5 : decode cX0_isCritical 5 = .ok (.aload_n 0, 1) := by decide +kernel
theorem dX0_isCritical_6 : decode cX0_isCritical 6 = .ok (.getfield 18, 3) := by decide +kernel
theorem dX0_isCritical_9 : decode cX0_isCritical 9 = .ok (.iload_n 1, 1) := by decide +kernel
theorem dX0_isCritical_10 : decode cX0_isCritical 10 = .ok (.dup2, 1) := by decide +kernel
theorem dX0_isCritical_11 : decode cX0_isCritical 11 = .ok (.iaload, 1) := by decide +kernel
theorem dX0_isCritical_12 : decode cX0_isCritical 12 = .ok (.iconst 1, 1) := by decide +kernel
theorem dX0_isCritical_13 : decode cX0_isCritical 13 = .ok (.isub, 1) := by decide +kernel
theorem dX0_isCritical_14 : decode cX0_isCritical 14 = .ok (.iastore, 1) := by decide +kernel
theorem dX0_isCritical_15 : decode cX0_isCritical 15 = .ok (.aload_n 0, 1) := by decide +kernel
theorem dX0_isCritical_16 : decode cX0_isCritical 16 = .ok (.invokevirtual 51, 3) := by decide +kernel
theorem dX0_isCritical_19 : decode cX0_isCritical 19 = .ok (.aload_n 0, 1) := by decide +kernel
theorem dX0_isCritical_20 : decode cX0_isCritical 20 = .ok (.getfield 61, 3) := by decide +kernel
theorem dX0_isCritical_23 : decode cX0_isCritical 23 = .ok (.iload_n 2, 1) := by decide +kernel
theorem dX0_isCritical_24 : decode cX0_isCritical 24 = .ok (.if_icmp .ge 7, 3) := by decide +kernel
theorem dX0_isCritical_27 : decode cX0_isCritical 27 = .ok (.iconst 1, 1) := by decide +kernel
theorem dX0_isCritical_28 : decode cX0_isCritical 28 = .ok (.goto 4, 3) := by decide +kernel
theorem dX0_isCritical_31 : decode cX0_isCritical 31 = .ok (.iconst 0, 1) := by decide +kernel
theorem dX0_isCritical_32 : decode cX0_isCritical 32 = .ok (.istore_n 3, 1) := by decide +kernel
theorem dX0_isCritical_33 : decode cX0_isCritical 33 = .ok (.aload_n 0, 1) := by decide +kernel
theorem dX0_isCritical_34 : decode cX0_isCritical 34 = .ok (.getfield 18, 3) := by decide +kernel
theorem dX0_isCritical_37 : decode cX0_isCritical 37 = .ok (.iload_n 1, 1) := by decide +kernel
theorem dX0_isCritical_38 : decode cX0_isCritical 38 = .ok (.dup2, 1) := by decide +kernel
theorem dX0_isCritical_39 : decode cX0_isCritical 39 = .ok (.iaload, 1) := by decide +kernel
theorem dX0_isCritical_40 : decode cX0_isCritical 40 = .ok (.iconst 1, 1) := by decide +kernel
theorem dX0_isCritical_41 : decode cX0_isCritical 41 = .ok (.iadd, 1) := by decide +kernel
theorem dX0_isCritical_42 : decode cX0_isCritical 42 = .ok (.iastore, 1) := by decide +kernel
theorem dX0_isCritical_43 : decode cX0_isCritical 43 = .ok (.aload_n 0, 1) := by decide +kernel
theorem dX0_isCritical_44 : decode cX0_isCritical 44 = .ok (.invokevirtual 51, 3) := by decide +kernel
theorem dX0_isCritical_47 : decode cX0_isCritical 47 = .ok (.iload_n 3, 1) := by decide +kernel
theorem dX0_isCritical_48 : decode cX0_isCritical 48 = .ok (.ireturn, 1) := by decide +kernel
theorem dX0_criticalOnes_0 : decode cX0_criticalOnes 0 = .ok (.iconst 0, 1) := by decide +kernel
theorem dX0_criticalOnes_1 : decode cX0_criticalOnes 1 = .ok (.istore_n 1, 1) := by decide +kernel
theorem dX0_criticalOnes_2 : decode cX0_criticalOnes 2 = .ok (.iconst 0, 1) := by decide +kernel
theorem dX0_criticalOnes_3 : decode cX0_criticalOnes 3 = .ok (.istore_n 2, 1) := by decide +kernel
theorem dX0_criticalOnes_4 : decode cX0_criticalOnes 4 = .ok (.iload_n 2, 1) := by decide +kernel
theorem dX0_criticalOnes_5 : decode cX0_criticalOnes 5 = .ok (.aload_n 0, 1) := by decide +kernel
theorem dX0_criticalOnes_6 : decode cX0_criticalOnes 6 = .ok (.getfield 41, 3) := by decide +kernel
theorem dX0_criticalOnes_9 : decode cX0_criticalOnes 9 = .ok (.if_icmp .ge 23, 3) := by decide +kernel
theorem dX0_criticalOnes_12 : decode cX0_criticalOnes 12 = .ok (.aload_n 0, 1) := by decide +kernel
theorem dX0_criticalOnes_13 : decode cX0_criticalOnes 13 = .ok (.iload_n 2, 1) := by decide +kernel
theorem dX0_criticalOnes_14 : decode cX0_criticalOnes 14 = .ok (.invokevirtual 109, 3) := by decide +kernel
theorem dX0_criticalOnes_17 : decode cX0_criticalOnes 17 = .ok (.ifCond .eq 9, 3) := by decide +kernel
theorem dX0_criticalOnes_20 : decode cX0_criticalOnes 20 = .ok (.iload_n 1, 1) := by decide +kernel
theorem dX0_criticalOnes_21 : decode cX0_criticalOnes 21 = .ok (.iconst 1, 1) := by decide +kernel
theorem dX0_criticalOnes_22 : decode cX0_criticalOnes 22 = .ok (.iload_n 2, 1) := by decide +kernel
theorem dX0_criticalOnes_23 : decode cX0_criticalOnes 23 = .ok (.ishl, 1) := by decide +kernel
theorem dX0_criticalOnes_24 : decode cX0_criticalOnes 24 = .ok (.ior, 1) := by decide +kernel
theorem dX0_criticalOnes_25 : decode cX0_criticalOnes 25 = .ok (.istore_n 1, 1) := by decide +kernel
theorem dX0_criticalOnes_26 : decode cX0_criticalOnes 26 = .ok (.iinc 2 1, 3) := by decide +kernel
theorem dX0_criticalOnes_29 : decode cX0_criticalOnes 29 = .ok (.goto (-25), 3) := by decide +kernel
theorem dX0_criticalOnes_32 : decode cX0_criticalOnes 32 = .ok (.iload_n 1, 1) := by decide +kernel
theorem dX0_criticalOnes_33 : decode cX0_criticalOnes 33 = .ok (.ireturn, 1) := by decide +kernel
theorem dX0_nextToNarrow_0 : decode cX0_nextToNarrow 0 = .ok (.aload_n 0, 1) := by decide +kernel
theorem dX0_nextToNarrow_1 : decode cX0_nextToNarrow 1 = .ok (.aload_n 0, 1) := by decide +kernel
theorem dX0_nextToNarrow_2 : decode cX0_nextToNarrow 2 = .ok (.invokevirtual 113, 3) := by decide +kernel
theorem dX0_nextToNarrow_5 : decode cX0_nextToNarrow 5 = .ok (.invokevirtual 117, 3) := by decide +kernel
theorem dX0_nextToNarrow_8 : decode cX0_nextToNarrow 8 = .ok (.istore_n 1, 1) := by decide +kernel
theorem dX0_nextToNarrow_9 : decode cX0_nextToNarrow 9 = .ok (.iload_n 1, 1) := by decide +kernel
theorem dX0_nextToNarrow_10 : decode cX0_nextToNarrow 10 = .ok (.iconst (-1), 1) := by decide +kernel
theorem dX0_nextToNarrow_11 : decode cX0_nextToNarrow 11 = .ok (.if_icmp .ne 11, 3) := by decide +kernel
theorem dX0_nextToNarrow_14 : decode cX0_nextToNarrow 14 = .ok (.aload_n 0, 1) := by decide +kernel
theorem dX0_nextToNarrow_15 : decode cX0_nextToNarrow 15 = .ok (.iconst (-1), 1) := by decide +kernel
theorem dX0_nextToNarrow_16 : decode cX0_nextToNarrow 16 = .ok (.invokevirtual 117, 3) := by decide +kernel
theorem dX0_nextToNarrow_19 : decode cX0_nextToNarrow 19 = .ok (.goto 4, 3) := by decide +kernel
theorem dX0_nextToNarrow_22 : decode cX0_nextToNarrow 22 = .ok (.iload_n 1, 1) := by decide +kernel
theorem dX0_nextToNarrow_23 : decode cX0_nextToNarrow 23 = .ok (.ireturn, 1) := by decide +kernel
theorem dX0_widestOf_0 : decode cX0_widestOf 0 = .ok (.iconst (-1), 1) := by decide +kernel
theorem dX0_widestOf_1 : decode cX0_widestOf 1 = .ok (.istore_n 2, 1) := by decide +kernel
theorem dX0_widestOf_2 : decode cX0_widestOf 2 = .ok (.iconst 1, 1) := by decide +kernel
theorem dX0_widestOf_3 : decode cX0_widestOf 3 = .ok (.istore_n 3, 1) := by decide +kernel
theorem dX0_widestOf_4 : decode cX0_widestOf 4 = .ok (.iconst 0, 1) := by decide +kernel
theorem dX0_widestOf_5 : decode cX0_widestOf 5 = .ok (.istore 4, 2) := by decide +kernel
theorem dX0_widestOf_7 : decode cX0_widestOf 7 = .ok (.iload 4, 2) := by decide +kernel
theorem dX0_widestOf_9 : decode cX0_widestOf 9 = .ok (.aload_n 0, 1) := by decide +kernel
theorem dX0_widestOf_10 : decode cX0_widestOf 10 = .ok (.getfield 41, 3) := by decide +kernel
theorem dX0_widestOf_13 : decode cX0_widestOf 13 = .ok (.if_icmp .ge 40, 3) := by decide +kernel
theorem dX0_widestOf_16 : decode cX0_widestOf 16 = .ok (.iload_n 1, 1) := by decide +kernel
theorem dX0_widestOf_17 : decode cX0_widestOf 17 = .ok (.iload 4, 2) := by decide +kernel
theorem dX0_widestOf_19 : decode cX0_widestOf 19 = .ok (.ishr, 1) := by decide +kernel
theorem dX0_widestOf_20 : decode cX0_widestOf 20 = .ok (.iconst 1, 1) := by decide +kernel
theorem dX0_widestOf_21 : decode cX0_widestOf 21 = .ok (.iand, 1) := by decide +kernel
theorem dX0_widestOf_22 : decode cX0_widestOf 22 = .ok (.ifCond .eq 25, 3) := by decide +kernel
theorem dX0_widestOf_25 : decode cX0_widestOf 25 = .ok (.aload_n 0, 1) := by decide +kernel
theorem dX0_widestOf_26 : decode cX0_widestOf 26 = .ok (.getfield 18, 3) := by decide +kernel
theorem dX0_widestOf_29 : decode cX0_widestOf 29 = .ok (.iload 4, 2) := by decide +kernel
theorem dX0_widestOf_31 : decode cX0_widestOf 31 = .ok (.iaload, 1) := by decide +kernel
theorem dX0_widestOf_32 : decode cX0_widestOf 32 = .ok (.iload_n 3, 1) := by decide +kernel
theorem dX0_widestOf_33 : decode cX0_widestOf 33 = .ok (.if_icmp .le 14, 3) := by decide +kernel
theorem dX0_widestOf_36 : decode cX0_widestOf 36 = .ok (.iload 4, 2) := by decide +kernel
theorem dX0_widestOf_38 : decode cX0_widestOf 38 = .ok (.istore_n 2, 1) := by decide +kernel
theorem dX0_widestOf_39 : decode cX0_widestOf 39 = .ok (.aload_n 0, 1) := by decide +kernel
theorem dX0_widestOf_40 : decode cX0_widestOf 40 = .ok (.getfield 18, 3) := by decide +kernel
theorem dX0_widestOf_43 : decode cX0_widestOf 43 = .ok (.iload 4, 2) := by decide +kernel
theorem dX0_widestOf_45 : decode cX0_widestOf 45 = .ok (.iaload, 1) := by decide +kernel
theorem dX0_widestOf_46 : decode cX0_widestOf 46 = .ok (.istore_n 3, 1) := by decide +kernel
theorem dX0_widestOf_47 : decode cX0_widestOf 47 = .ok (.iinc 4 1, 3) := by decide +kernel
theorem dX0_widestOf_50 : decode cX0_widestOf 50 = .ok (.goto (-43), 3) := by decide +kernel
theorem dX0_widestOf_53 : decode cX0_widestOf 53 = .ok (.iload_n 2, 1) := by decide +kernel
theorem dX0_widestOf_54 : decode cX0_widestOf 54 = .ok (.ireturn, 1) := by decide +kernel
theorem dX1_init_0 : decode cX1_init 0 = .ok (.aload_n 0, 1) := by decide +kernel
theorem dX1_init_1 : decode cX1_init 1 = .ok (.invokespecial 3, 3) := by decide +kernel
theorem dX1_init_4 : decode cX1_init 4 = .ok (.aload_n 0, 1) := by decide +kernel
theorem dX1_init_5 : decode cX1_init 5 = .ok (.new 9, 3) := by decide +kernel
theorem dX1_init_8 : decode cX1_init 8 = .ok (.dup, 1) := by decide +kernel
theorem dX1_init_9 : decode cX1_init 9 = .ok (.invokespecial 11, 3) := by decide +kernel
theorem dX1_init_12 : decode cX1_init 12 = .ok (.putfield 12, 3) := by decide +kernel
theorem dX1_init_15 : decode cX1_init 15 = .ok (.aload_n 0, 1) := by decide +kernel
theorem dX1_init_16 : decode cX1_init 16 = .ok (.bipush 60, 2) := by decide +kernel
theorem dX1_init_18 : decode cX1_init 18 = .ok (.newarray .int, 2) := by decide +kernel
theorem dX1_init_20 : decode cX1_init 20 = .ok (.putfield 18, 3) := by decide +kernel
theorem dX1_init_23 : decode cX1_init 23 = .ok (.return_, 1) := by decide +kernel
theorem dX1_takes_0 : decode cX1_takes 0 = .ok (.aload_n 1, 1) := by decide +kernel
theorem dX1_takes_1 : decode cX1_takes 1 = .ok (.iload_n 2, 1) := by decide +kernel
theorem dX1_takes_2 : decode cX1_takes 2 = .ok (.aload_n 0, 1) := by decide +kernel
theorem dX1_takes_3 : decode cX1_takes 3 = .ok (.getfield 18, 3) := by decide +kernel
theorem dX1_takes_6 : decode cX1_takes 6 = .ok (.iconst 0, 1) := by decide +kernel
theorem dX1_takes_7 : decode cX1_takes 7 = .ok (.iload_n 3, 1) := by decide +kernel
theorem dX1_takes_8 : decode cX1_takes 8 = .ok (.invokestatic 22, 3) := by decide +kernel
theorem dX1_takes_11 : decode cX1_takes 11 = .ok (.aload_n 0, 1) := by decide +kernel
theorem dX1_takes_12 : decode cX1_takes 12 = .ok (.iload_n 3, 1) := by decide +kernel
theorem dX1_takes_13 : decode cX1_takes 13 = .ok (.putfield 28, 3) := by decide +kernel
theorem dX1_takes_16 : decode cX1_takes 16 = .ok (.aload_n 0, 1) := by decide +kernel
theorem dX1_takes_17 : decode cX1_takes 17 = .ok (.iconst 0, 1) := by decide +kernel
theorem dX1_takes_18 : decode cX1_takes 18 = .ok (.putfield 32, 3) := by decide +kernel
theorem dX1_takes_21 : decode cX1_takes 21 = .ok (.aload_n 0, 1) := by decide +kernel
theorem dX1_takes_22 : decode cX1_takes 22 = .ok (.getfield 12, 3) := by decide +kernel
theorem dX1_takes_25 : decode cX1_takes 25 = .ok (.iconst 0, 1) := by decide +kernel
theorem dX1_takes_26 : decode cX1_takes 26 = .ok (.putfield 35, 3) := by decide +kernel
theorem dX1_takes_29 : decode cX1_takes 29 = .ok (.aload_n 0, 1) := by decide +kernel
theorem dX1_takes_30 : decode cX1_takes 30 = .ok (.bipush 109, 2) := by decide +kernel
theorem dX1_takes_32 : decode cX1_takes 32 = .ok (.invokevirtual 38, 3) := by decide +kernel
theorem dX1_takes_35 : decode cX1_takes 35 = .ok (.ifCond .eq 41, 3) := by decide +kernel
theorem dX1_takes_38 : decode cX1_takes 38 = .ok (.aload_n 0, 1) := by decide +kernel
theorem dX1_takes_39 : decode cX1_takes 39 = .ok (.invokevirtual 42, 3) := by decide +kernel
theorem dX1_takes_42 : decode cX1_takes 42 = .ok (.ifCond .eq 34, 3) := by decide +kernel
theorem dX1_takes_45 : decode cX1_takes 45 = .ok (.aload_n 0, 1) := by decide +kernel
theorem dX1_takes_46 : decode cX1_takes 46 = .ok (.iconst 0, 1) := by decide +kernel
theorem dX1_takes_47 : decode cX1_takes 47 = .ok (.invokevirtual 46, 3) := by decide +kernel
theorem dX1_takes_50 : decode cX1_takes 50 = .ok (.ifCond .eq 26, 3) := by decide +kernel
theorem dX1_takes_53 : decode cX1_takes 53 = .ok (.aload_n 0, 1) := by decide +kernel
theorem dX1_takes_54 : decode cX1_takes 54 = .ok (.iconst 1, 1) := by decide +kernel
theorem dX1_takes_55 : decode cX1_takes 55 = .ok (.invokevirtual 46, 3) := by decide +kernel
theorem dX1_takes_58 : decode cX1_takes 58 = .ok (.ifCond .eq 18, 3) := by decide +kernel
theorem dX1_takes_61 : decode cX1_takes 61 = .ok (.aload_n 0, 1) := by decide +kernel
theorem dX1_takes_62 : decode cX1_takes 62 = .ok (.getfield 32, 3) := by decide +kernel
theorem dX1_takes_65 : decode cX1_takes 65 = .ok (.aload_n 0, 1) := by decide +kernel
theorem dX1_takes_66 : decode cX1_takes 66 = .ok (.getfield 28, 3) := by decide +kernel
theorem dX1_takes_69 : decode cX1_takes 69 = .ok (.if_icmp .ne 7, 3) := by decide +kernel
theorem dX1_takes_72 : decode cX1_takes 72 = .ok (.iconst 1, 1) := by decide +kernel
theorem dX1_takes_73 : decode cX1_takes 73 = .ok (.goto 4, 3) := by decide +kernel
theorem dX1_takes_76 : decode cX1_takes 76 = .ok (.iconst 0, 1) := by decide +kernel
theorem dX1_takes_77 : decode cX1_takes 77 = .ok (.ireturn, 1) := by decide +kernel
theorem dX1_takesCode_0 : decode cX1_takesCode 0 = .ok (.aload_n 0, 1) := by decide +kernel
theorem dX1_takesCode_1 : decode cX1_takesCode 1 = .ok (.getfield 32, 3) := by decide +kernel
theorem dX1_takesCode_4 : decode cX1_takesCode 4 = .ok (.aload_n 0, 1) := by decide +kernel
theorem dX1_takesCode_5 : decode cX1_takesCode 5 = .ok (.getfield 28, 3) := by decide +kernel
theorem dX1_takesCode_8 : decode cX1_takesCode 8 = .ok (.if_icmp .ge 16, 3) := by decide +kernel
theorem dX1_takesCode_11 : decode cX1_takesCode 11 = .ok (.aload_n 0, 1) := by decide +kernel
theorem dX1_takesCode_12 : decode cX1_takesCode 12 = .ok (.getfield 18, 3) := by decide +kernel
theorem dX1_takesCode_15 : decode cX1_takesCode 15 = .ok (.aload_n 0, 1) := by decide +kernel
theorem dX1_takesCode_16 : decode cX1_takesCode 16 = .ok (.getfield 32, 3) := by decide +kernel
theorem dX1_takesCode_19 : decode cX1_takesCode 19 = .ok (.iaload, 1) := by decide +kernel
theorem dX1_takesCode_20 : decode cX1_takesCode 20 = .ok (.iload_n 1, 1) := by decide +kernel
theorem dX1_takesCode_21 : decode cX1_takesCode 21 = .ok (.if_icmp .eq 5, 3) := by decide +kernel
theorem dX1_takesCode_24 : decode cX1_takesCode 24 = .ok (.iconst 0, 1) := by decide +kernel
theorem dX1_takesCode_25 : decode cX1_takesCode 25 = .ok (.ireturn, 1) := by decide +kernel
theorem dX1_takesCode_26 : decode cX1_takesCode 26 = .ok (.aload_n 0, 1) := by decide +kernel
theorem dX1_takesCode_27 : decode cX1_takesCode 27 = .ok (.dup, 1) := by decide +kernel
theorem dX1_takesCode_28 : decode cX1_takesCode 28 = .ok (.getfield 32, 3) := by decide +kernel
theorem dX1_takesCode_31 : decode cX1_takesCode 31 = .ok (.iconst 1, 1) := by decide +kernel
theorem dX1_takesCode_32 : decode cX1_takesCode 32 = .ok (.iadd, 1) := by decide +kernel
theorem dX1_takesCode_33 : decode cX1_takesCode 33 = .ok (.putfield 32, 3) := by decide +kernel
theorem dX1_takesCode_36 : decode cX1_takesCode 36 = .ok (.iconst 1, 1) := by decide +kernel
theorem dX1_takesCode_37 : decode cX1_takesCode 37 = .ok (.ireturn, 1) := by decide +kernel
theorem dX1_takeDigit_0 : decode cX1_takeDigit 0 = .ok (.aload_n 0, 1) := by decide +kernel
theorem dX1_takeDigit_1 : decode cX1_takeDigit 1 = .ok (.getfield 32, 3) := by decide +kernel
theorem dX1_takeDigit_4 : decode cX1_takeDigit 4 = .ok (.aload_n 0, 1) := by decide +kernel
theorem dX1_takeDigit_5 : decode cX1_takeDigit 5 = .ok (.getfield 28, 3) := by decide +kernel
theorem dX1_takeDigit_8 : decode cX1_takeDigit 8 = .ok (.if_icmp .ge 35, 3) := by decide +kernel
theorem dX1_takeDigit_11 : decode cX1_takeDigit 11 = .ok (.aload_n 0, 1) := by decide +kernel
theorem dX1_takeDigit_12 : decode cX1_takeDigit 12 = .ok (.getfield 18, 3) := by decide +kernel
theorem dX1_takeDigit_15 : decode cX1_takeDigit 15 = .ok (.aload_n 0, 1) := by decide +kernel
theorem dX1_takeDigit_16 : decode cX1_takeDigit 16 = .ok (.getfield 32, 3) := by decide +kernel
theorem dX1_takeDigit_19 : decode cX1_takeDigit 19 = .ok (.iaload, 1) := by decide +kernel
theorem dX1_takeDigit_20 : decode cX1_takeDigit 20 = .ok (.bipush 48, 2) := by decide +kernel
theorem dX1_takeDigit_22 : decode cX1_takeDigit 22 = .ok (.iload_n 1, 1) := by decide +kernel
theorem dX1_takeDigit_23 : decode cX1_takeDigit 23 = .ok (.iadd, 1) := by decide +kernel
theorem dX1_takeDigit_24 : decode cX1_takeDigit 24 = .ok (.if_icmp .lt 19, 3) := by decide +kernel
theorem dX1_takeDigit_27 : decode cX1_takeDigit 27 = .ok (.aload_n 0, 1) := by decide +kernel
theorem dX1_takeDigit_28 : decode cX1_takeDigit 28 = .ok (.getfield 18, 3) := by decide +kernel
theorem dX1_takeDigit_31 : decode cX1_takeDigit 31 = .ok (.aload_n 0, 1) := by decide +kernel
theorem dX1_takeDigit_32 : decode cX1_takeDigit 32 = .ok (.getfield 32, 3) := by decide +kernel
theorem dX1_takeDigit_35 : decode cX1_takeDigit 35 = .ok (.iaload, 1) := by decide +kernel
theorem dX1_takeDigit_36 : decode cX1_takeDigit 36 = .ok (.bipush 48, 2) := by decide +kernel
theorem dX1_takeDigit_38 : decode cX1_takeDigit 38 = .ok (.iload_n 2, 1) := by decide +kernel
theorem dX1_takeDigit_39 : decode cX1_takeDigit 39 = .ok (.iadd, 1) := by decide +kernel
theorem dX1_takeDigit_40 : decode cX1_takeDigit 40 = .ok (.if_icmp .le 5, 3) := by decide +kernel
theorem dX1_takeDigit_43 : decode cX1_takeDigit 43 = .ok (.iconst (-1), 1) := by decide +kernel
theorem dX1_takeDigit_44 : decode cX1_takeDigit 44 = .ok (.ireturn, 1) := by decide +kernel
theorem dX1_takeDigit_45 : decode cX1_takeDigit 45 = .ok (.aload_n 0, 1) := by decide +kernel
theorem dX1_takeDigit_46 : decode cX1_takeDigit 46 = .ok (.dup, 1) := by decide +kernel
theorem dX1_takeDigit_47 : decode cX1_takeDigit 47 = .ok (.getfield 32, 3) := by decide +kernel
theorem dX1_takeDigit_50 : decode cX1_takeDigit 50 = .ok (.iconst 1, 1) := by decide +kernel
theorem dX1_takeDigit_51 : decode cX1_takeDigit 51 = .ok (.iadd, 1) := by decide +kernel
theorem dX1_takeDigit_52 : decode cX1_takeDigit 52 = .ok (.putfield 32, 3) := by decide +kernel
theorem dX1_takeDigit_55 : decode cX1_takeDigit 55 = .ok (.aload_n 0, 1) := by decide +kernel
theorem dX1_takeDigit_56 : decode cX1_takeDigit 56 = .ok (.getfield 18, 3) := by decide +kernel
theorem dX1_takeDigit_59 : decode cX1_takeDigit 59 = .ok (.aload_n 0, 1) := by decide +kernel
theorem dX1_takeDigit_60 : decode cX1_takeDigit 60 = .ok (.getfield 32, 3) := by decide +kernel
theorem dX1_takeDigit_63 : decode cX1_takeDigit 63 = .ok (.iconst 1, 1) := by decide +kernel
theorem dX1_takeDigit_64 : decode cX1_takeDigit 64 = .ok (.isub, 1) := by decide +kernel
theorem dX1_takeDigit_65 : decode cX1_takeDigit 65 = .ok (.iaload, 1) := by decide +kernel
theorem dX1_takeDigit_66 : decode cX1_takeDigit 66 = .ok (.bipush 48, 2) := by decide +kernel
theorem dX1_takeDigit_68 : decode cX1_takeDigit 68 = .ok (.isub, 1) := by decide +kernel
theorem dX1_takeDigit_69 : decode cX1_takeDigit 69 = .ok (.ireturn, 1) := by decide +kernel
theorem dX1_takeKind_0 : decode cX1_takeKind 0 = .ok (.aload_n 0, 1) := by decide +kernel
theorem dX1_takeKind_1 : decode cX1_takeKind 1 = .ok (.bipush 112, 2) := by decide +kernel
theorem dX1_takeKind_3 : decode cX1_takeKind 3 = .ok (.invokevirtual 38, 3) := by decide +kernel
theorem dX1_takeKind_6 : decode cX1_takeKind 6 = .ok (.ifCond .eq 5, 3) := by decide +kernel
theorem dX1_takeKind_9 : decode cX1_takeKind 9 = .ok (.iconst 0, 1) := by decide +kernel
theorem dX1_takeKind_10 : decode cX1_takeKind 10 = .ok (.ireturn, 1) := by decide +kernel
theorem dX1_takeKind_11 : decode cX1_takeKind 11 = .ok (.aload_n 0, 1) := by decide +kernel
theorem dX1_takeKind_12 : decode cX1_takeKind 12 = .ok (.bipush 98, 2) := by decide +kernel
theorem dX1_takeKind_14 : decode cX1_takeKind 14 = .ok (.invokevirtual 38, 3) := by decide +kernel
theorem dX1_takeKind_17 : decode cX1_takeKind 17 = .ok (.ifCond .eq 5, 3) := by decide +kernel
theorem dX1_takeKind_20 : decode cX1_takeKind 20 = .ok (.iconst 1, 1) := by decide +kernel
theorem dX1_takeKind_21 : decode cX1_takeKind 21 = .ok (.ireturn, 1) := by decide +kernel
theorem dX1_takeKind_22 : decode cX1_takeKind 22 = .ok (.aload_n 0, 1) := by decide +kernel
theorem dX1_takeKind_23 : decode cX1_takeKind 23 = .ok (.bipush 100, 2) := by decide +kernel
theorem dX1_takeKind_25 : decode cX1_takeKind 25 = .ok (.invokevirtual 38, 3) := by decide +kernel
theorem dX1_takeKind_28 : decode cX1_takeKind 28 = .ok (.ifCond .eq 7, 3) := by decide +kernel
theorem dX1_takeKind_31 : decode cX1_takeKind 31 = .ok (.iconst 2, 1) := by decide +kernel
theorem dX1_takeKind_32 : decode cX1_takeKind 32 = .ok (.goto 4, 3) := by decide +kernel
theorem dX1_takeKind_35 : decode cX1_takeKind 35 = .ok (.iconst (-1), 1) := by decide +kernel
theorem dX1_takeKind_36 : decode cX1_takeKind 36 = .ok (.ireturn, 1) := by decide +kernel
theorem dX1_takesAreas_0 : decode cX1_takesAreas 0 = .ok (.iconst 0, 1) := by decide +kernel
theorem dX1_takesAreas_1 : decode cX1_takesAreas 1 = .ok (.istore_n 1, 1) := by decide +kernel
theorem dX1_takesAreas_2 : decode cX1_takesAreas 2 = .ok (.iload_n 1, 1) := by decide +kernel
theorem dX1_takesAreas_3 : decode cX1_takesAreas 3 = .ok (.bipush 6, 2) := by decide +kernel
theorem dX1_takesAreas_5 : decode cX1_takesAreas 5 = .ok (.if_icmp .ge 28, 3) := by decide +kernel
theorem dX1_takesAreas_8 : decode cX1_takesAreas 8 = .ok (.aload_n 0, 1) := by decide +kernel
theorem dX1_takesAreas_9 : decode cX1_takesAreas 9 = .ok (.bipush 59, 2) := by decide +kernel
theorem dX1_takesAreas_11 : decode cX1_takesAreas 11 = .ok (.invokevirtual 38, 3) := by decide +kernel
theorem dX1_takesAreas_14 : decode cX1_takesAreas 14 = .ok (.ifCond .eq 19, 3) := by decide +kernel
theorem dX1_takesAreas_17 : decode cX1_takesAreas 17 = .ok (.aload_n 0, 1) := by decide +kernel
theorem dX1_takesAreas_18 : decode cX1_takesAreas 18 = .ok (.iload_n 1, 1) := by decide +kernel
theorem dX1_takesAreas_19 : decode cX1_takesAreas 19 = .ok (.invokevirtual 49, 3) := by decide +kernel
theorem dX1_takesAreas_22 : decode cX1_takesAreas 22 = .ok (.ifCond .ne 5, 3) := by decide +kernel
theorem dX1_takesAreas_25 : decode cX1_takesAreas 25 = .ok (.iconst 0, 1) := by decide +kernel
theorem dX1_takesAreas_26 : decode cX1_takesAreas 26 = .ok (.ireturn, 1) := by decide +kernel
theorem dX1_takesAreas_27 : decode cX1_takesAreas 27 = .ok (.iinc 1 1, 3) := by decide +kernel
theorem dX1_takesAreas_30 : decode cX1_takesAreas 30 = .ok (.goto (-28), 3) := by decide +kernel
theorem dX1_takesAreas_33 : decode cX1_takesAreas 33 = .ok (.aload_n 0, 1) := by decide +kernel
theorem dX1_takesAreas_34 : decode cX1_takesAreas 34 = .ok (.getfield 12, 3) := by decide +kernel
theorem dX1_takesAreas_37 : decode cX1_takesAreas 37 = .ok (.getfield 35, 3) := by decide +kernel
theorem dX1_takesAreas_40 : decode cX1_takesAreas 40 = .ok (.ifCond .le 7, 3) := by decide +kernel
theorem dX1_takesAreas_43 : decode cX1_takesAreas 43 = .ok (.iconst 1, 1) := by decide +kernel
theorem dX1_takesAreas_44 : decode cX1_takesAreas 44 = .ok (.goto 4, 3) := by decide +kernel
theorem dX1_takesAreas_47 : decode cX1_takesAreas 47 = .ok (.iconst 0, 1) := by decide +kernel
theorem dX1_takesAreas_48 : decode cX1_takesAreas 48 = .ok (.ireturn, 1) := by decide +kernel
theorem dX1_takesArea_0 : decode cX1_takesArea 0 = .ok (.aload_n 0, 1) := by decide +kernel
theorem dX1_takesArea_1 : decode cX1_takesArea 1 = .ok (.invokevirtual 52, 3) := by decide +kernel
theorem dX1_takesArea_4 : decode cX1_takesArea 4 = .ok (.istore_n 2, 1) := by decide +kernel
theorem dX1_takesArea_5 : decode cX1_takesArea 5 = .ok (.iload_n 2, 1) := by decide +kernel
theorem dX1_takesArea_6 : decode cX1_takesArea 6 = .ok (.ifCond .ge 5, 3) := by decide +kernel
theorem dX1_takesArea_9 : decode cX1_takesArea 9 = .ok (.iconst 0, 1) := by decide +kernel
theorem dX1_takesArea_10 : decode cX1_takesArea 10 = .ok (.ireturn, 1) := by decide +kernel
theorem dX1_takesArea_11 : decode cX1_takesArea 11 = .ok (.aload_n 0, 1) := by decide +kernel
theorem dX1_takesArea_12 : decode cX1_takesArea 12 = .ok (.iconst 1, 1) := by decide +kernel
theorem dX1_takesArea_13 : decode cX1_takesArea 13 = .ok (.bipush 9, 2) := by decide +kernel
theorem dX1_takesArea_15 : decode cX1_takesArea 15 = .ok (.invokevirtual 56, 3) := by decide +kernel
theorem dX1_takesArea_18 : decode cX1_takesArea 18 = .ok (.istore_n 3, 1) := by decide +kernel
theorem dX1_takesArea_19 : decode cX1_takesArea 19 = .ok (.iload_n 3, 1) := by decide +kernel
theorem dX1_takesArea_20 : decode cX1_takesArea 20 = .ok (.ifCond .ge 5, 3) := by decide +kernel
theorem dX1_takesArea_23 : decode cX1_takesArea 23 = .ok (.iconst 0, 1) := by decide +kernel
theorem dX1_takesArea_24 : decode cX1_takesArea 24 = .ok (.ireturn, 1) := by decide +kernel
theorem dX1_takesArea_25 : decode cX1_takesArea 25 = .ok (.aload_n 0, 1) := by decide +kernel
theorem dX1_takesArea_26 : decode cX1_takesArea 26 = .ok (.iconst 1, 1) := by decide +kernel
theorem dX1_takesArea_27 : decode cX1_takesArea 27 = .ok (.bipush 9, 2) := by decide +kernel
theorem dX1_takesArea_29 : decode cX1_takesArea 29 = .ok (.invokevirtual 56, 3) := by decide +kernel
theorem dX1_takesArea_32 : decode cX1_takesArea 32 = .ok (.istore 4, 2) := by decide +kernel
theorem dX1_takesArea_34 : decode cX1_takesArea 34 = .ok (.iload 4, 2) := by decide +kernel
theorem dX1_takesArea_36 : decode cX1_takesArea 36 = .ok (.ifCond .ge 5, 3) := by decide +kernel
theorem dX1_takesArea_39 : decode cX1_takesArea 39 = .ok (.iconst 0, 1) := by decide +kernel
theorem dX1_takesArea_40 : decode cX1_takesArea 40 = .ok (.ireturn, 1) := by decide +kernel
theorem dX1_takesArea_41 : decode cX1_takesArea 41 = .ok (.aload_n 0, 1) := by decide +kernel
theorem dX1_takesArea_42 : decode cX1_takesArea 42 = .ok (.dup, 1) := by decide +kernel
theorem dX1_takesArea_43 : decode cX1_takesArea 43 = .ok (.getfield 60, 3) := by decide +kernel
theorem dX1_takesArea_46 : decode cX1_takesArea 46 = .ok (.iconst 1, 1) := by decide +kernel
theorem dX1_takesArea_47 : decode cX1_takesArea 47 = .ok (.iadd, 1) := by decide +kernel
theorem dX1_takesArea_48 : decode cX1_takesArea 48 = .ok (.putfield 60, 3) := by decide +kernel
theorem dX1_takesArea_51 : decode cX1_takesArea 51 = .ok (.aload_n 0, 1) := by decide +kernel
theorem dX1_takesArea_52 : decode cX1_takesArea 52 = .ok (.getfield 12, 3) := by decide +kernel
theorem dX1_takesArea_55 : decode cX1_takesArea 55 = .ok (.getfield 63, 3) := by decide +kernel
theorem dX1_takesArea_58 : decode cX1_takesArea 58 = .ok (.iload_n 1, 1) := by decide +kernel
theorem dX1_takesArea_59 : decode cX1_takesArea 59 = .ok (.iload_n 2, 1) := by decide +kernel
theorem dX1_takesArea_60 : decode cX1_takesArea 60 = .ok (.iastore, 1) := by decide +kernel
theorem dX1_takesArea_61 : decode cX1_takesArea 61 = .ok (.aload_n 0, 1) := by decide +kernel
theorem dX1_takesArea_62 : decode cX1_takesArea 62 = .ok (.getfield 12, 3) := by decide +kernel
theorem dX1_takesArea_65 : decode cX1_takesArea 65 = .ok (.getfield 66, 3) := by decide +kernel
theorem dX1_takesArea_68 : decode cX1_takesArea 68 = .ok (.iload_n 1, 1) := by decide +kernel
theorem dX1_takesArea_69 : decode cX1_takesArea 69 = .ok (.iload_n 3, 1) := by decide +kernel
theorem dX1_takesArea_70 : decode cX1_takesArea 70 = .ok (.iastore, 1) := by decide +kernel
theorem dX1_takesArea_71 : decode cX1_takesArea 71 = .ok (.aload_n 0, 1) := by decide +kernel
theorem dX1_takesArea_72 : decode cX1_takesArea 72 = .ok (.getfield 12, 3) := by decide +kernel
theorem dX1_takesArea_75 : decode cX1_takesArea 75 = .ok (.getfield 69, 3) := by decide +kernel
theorem dX1_takesArea_78 : decode cX1_takesArea 78 = .ok (.iload_n 1, 1) := by decide +kernel
theorem dX1_takesArea_79 : decode cX1_takesArea 79 = .ok (.iload 4, 2) := by decide +kernel
theorem dX1_takesArea_81 : decode cX1_takesArea 81 = .ok (.iastore, 1) := by decide +kernel
theorem dX1_takesArea_82 : decode cX1_takesArea 82 = .ok (.aload_n 0, 1) := by decide +kernel
theorem dX1_takesArea_83 : decode cX1_takesArea 83 = .ok (.getfield 12, 3) := by decide +kernel
theorem dX1_takesArea_86 : decode cX1_takesArea 86 = .ok (.getfield 72, 3) := by decide +kernel
theorem dX1_takesArea_89 : decode cX1_takesArea 89 = .ok (.iload_n 1, 1) := by decide +kernel
theorem dX1_takesArea_90 : decode cX1_takesArea 90 = .ok (.aload_n 0, 1) := by decide +kernel
theorem dX1_takesArea_91 : decode cX1_takesArea 91 = .ok (.getfield 60, 3) := by decide +kernel
theorem dX1_takesArea_94 : decode cX1_takesArea 94 = .ok (.iastore, 1) := by decide +kernel
theorem dX1_takesArea_95 : decode cX1_takesArea 95 = .ok (.aload_n 0, 1) := by decide +kernel
theorem dX1_takesArea_96 : decode cX1_takesArea 96 = .ok (.getfield 12, 3) := by decide +kernel
theorem dX1_takesArea_99 : decode cX1_takesArea 99 = .ok (.iload_n 1, 1) := by decide +kernel
theorem dX1_takesArea_100 : decode cX1_takesArea 100 = .ok (.iconst 1, 1) := by decide +kernel
theorem dX1_takesArea_101 : decode cX1_takesArea 101 = .ok (.iadd, 1) := by decide +kernel
theorem dX1_takesArea_102 : decode cX1_takesArea 102 = .ok (.putfield 35, 3) := by decide +kernel
theorem dX1_takesArea_105 : decode cX1_takesArea 105 = .ok (.iconst 1, 1) := by decide +kernel
theorem dX1_takesArea_106 : decode cX1_takesArea 106 = .ok (.ireturn, 1) := by decide +kernel
theorem dX1_takesOrder_0 : decode cX1_takesOrder 0 = .ok (.aload_n 0, 1) := by decide +kernel
theorem dX1_takesOrder_1 : decode cX1_takesOrder 1 = .ok (.bipush 44, 2) := by decide +kernel
theorem dX1_takesOrder_3 : decode cX1_takesOrder 3 = .ok (.invokevirtual 38, 3) := by decide +kernel
theorem dX1_takesOrder_6 : decode cX1_takesOrder 6 = .ok (.ifCond .ne 5, 3) := by decide +kernel
theorem dX1_takesOrder_9 : decode cX1_takesOrder 9 = .ok (.iconst 0, 1) := by decide +kernel
theorem dX1_takesOrder_10 : decode cX1_takesOrder 10 = .ok (.ireturn, 1) := by decide +kernel
theorem dX1_takesOrder_11 : decode cX1_takesOrder 11 = .ok (.iconst 0, 1) := by decide +kernel
theorem dX1_takesOrder_12 : decode cX1_takesOrder 12 = .ok (.istore_n 2, 1) := by decide +kernel
theorem dX1_takesOrder_13 : decode cX1_takesOrder 13 = .ok (.iconst 0, 1) := by decide +kernel
theorem dX1_takesOrder_14 : decode cX1_takesOrder 14 = .ok (.istore_n 3, 1) := by decide +kernel
theorem dX1_takesOrder_15 : decode cX1_takesOrder 15 = .ok (.iload_n 3, 1) := by decide +kernel
theorem dX1_takesOrder_16 : decode cX1_takesOrder 16 = .ok (.aload_n 0, 1) := by decide +kernel
theorem dX1_takesOrder_17 : decode cX1_takesOrder 17 = .ok (.getfield 12, 3) := by decide +kernel
theorem dX1_takesOrder_20 : decode cX1_takesOrder 20 = .ok (.getfield 35, 3) := by decide +kernel
theorem dX1_takesOrder_23 : decode cX1_takesOrder 23 = .ok (.if_icmp .ge 73, 3) := by decide +kernel
theorem dX1_takesOrder_26 : decode cX1_takesOrder 26 = .ok (.aload_n 0, 1) := by decide +kernel
theorem dX1_takesOrder_27 : decode cX1_takesOrder 27 = .ok (.iconst 0, 1) := by decide +kernel
theorem dX1_takesOrder_28 : decode cX1_takesOrder 28 = .ok (.aload_n 0, 1) := by decide +kernel
theorem dX1_takesOrder_29 : decode cX1_takesOrder 29 = .ok (.getfield 12, 3) := by decide +kernel
theorem dX1_takesOrder_32 : decode cX1_takesOrder 32 = .ok (.getfield 35, 3) := by decide +kernel
theorem dX1_takesOrder_35 : decode cX1_takesOrder 35 = .ok (.iconst 1, 1) := by decide +kernel
theorem dX1_takesOrder_36 : decode cX1_takesOrder 36 = .ok (.isub, 1) := by decide +kernel
theorem dX1_takesOrder_37 : decode cX1_takesOrder 37 = .ok (.invokevirtual 56, 3) := by decide +kernel
theorem dX1_takesOrder_40 : decode cX1_takesOrder 40 = .ok (.istore 4, 2) := by decide +kernel
theorem dX1_takesOrder_42 : decode cX1_takesOrder 42 = .ok (.iload 4, 2) := by decide +kernel
theorem dX1_takesOrder_44 : decode cX1_takesOrder 44 = .ok (.ifCond .ge 5, 3) := by decide +kernel
theorem dX1_takesOrder_47 : decode cX1_takesOrder 47 = .ok (.iconst 0, 1) := by decide +kernel
theorem dX1_takesOrder_48 : decode cX1_takesOrder 48 = .ok (.ireturn, 1) := by decide +kernel
theorem dX1_takesOrder_49 : decode cX1_takesOrder 49 = .ok (.iload_n 2, 1) := by decide +kernel
theorem dX1_takesOrder_50 : decode cX1_takesOrder 50 = .ok (.iload 4, 2) := by decide +kernel
theorem dX1_takesOrder_52 : decode cX1_takesOrder 52 = .ok (.ishr, 1) := by decide +kernel
theorem dX1_takesOrder_53 : decode cX1_takesOrder 53 = .ok (.iconst 1, 1) := by decide +kernel
theorem dX1_takesOrder_54 : decode cX1_takesOrder 54 = .ok (.iand, 1) := by decide +kernel
theorem dX1_takesOrder_55 : decode cX1_takesOrder 55 = .ok (.ifCond .eq 15, 3) := by decide +kernel
theorem dX1_takesOrder_58 : decode cX1_takesOrder 58 = .ok (.aload_n 0, 1) := by decide +kernel
theorem dX1_takesOrder_59 : decode cX1_takesOrder 59 = .ok (.dup, 1) := by decide +kernel
theorem dX1_takesOrder_60 : decode cX1_takesOrder 60 = .ok (.getfield 32, 3) := by decide +kernel
theorem dX1_takesOrder_63 : decode cX1_takesOrder 63 = .ok (.iconst 1, 1) := by decide +kernel
theorem dX1_takesOrder_64 : decode cX1_takesOrder 64 = .ok (.isub, 1) := by decide +kernel
theorem dX1_takesOrder_65 : decode cX1_takesOrder 65 = .ok (.putfield 32, 3) := by decide +kernel
theorem dX1_takesOrder_68 : decode cX1_takesOrder 68 = .ok (.iconst 0, 1) := by decide +kernel
theorem dX1_takesOrder_69 : decode cX1_takesOrder 69 = .ok (.ireturn, 1) := by decide +kernel
theorem dX1_takesOrder_70 : decode cX1_takesOrder 70 = .ok (.iload_n 2, 1) := by decide +kernel
theorem dX1_takesOrder_71 : decode cX1_takesOrder 71 = .ok (.iconst 1, 1) := by decide +kernel
theorem dX1_takesOrder_72 : decode cX1_takesOrder 72 = .ok (.iload 4, 2) := by decide +kernel
theorem dX1_takesOrder_74 : decode cX1_takesOrder 74 = .ok (.ishl, 1) := by decide +kernel
theorem dX1_takesOrder_75 : decode cX1_takesOrder 75 = .ok (.ior, 1) := by decide +kernel
theorem dX1_takesOrder_76 : decode cX1_takesOrder 76 = .ok (.istore_n 2, 1) := by decide +kernel
theorem dX1_takesOrder_77 : decode cX1_takesOrder 77 = .ok (.aload_n 0, 1) := by decide +kernel
theorem dX1_takesOrder_78 : decode cX1_takesOrder 78 = .ok (.getfield 12, 3) := by decide +kernel
theorem dX1_takesOrder_81 : decode cX1_takesOrder 81 = .ok (.getfield 75, 3) := by decide +kernel
theorem dX1_takesOrder_84 : decode cX1_takesOrder 84 = .ok (.iload_n 1, 1) := by decide +kernel
theorem dX1_takesOrder_85 : decode cX1_takesOrder 85 = .ok (.aaload, 1) := by decide +kernel
theorem dX1_takesOrder_86 : decode cX1_takesOrder 86 = .ok (.iload_n 3, 1) := by decide +kernel
theorem dX1_takesOrder_87 : decode cX1_takesOrder 87 = .ok (.iload 4, 2) := by decide +kernel
theorem dX1_takesOrder_89 : decode cX1_takesOrder 89 = .ok (.iastore, 1) := by decide +kernel
theorem dX1_takesOrder_90 : decode cX1_takesOrder 90 = .ok (.iinc 3 1, 3) := by decide +kernel
theorem dX1_takesOrder_93 : decode cX1_takesOrder 93 = .ok (.goto (-78), 3) := by decide +kernel
theorem dX1_takesOrder_96 : decode cX1_takesOrder 96 = .ok (.iconst 1, 1) := by decide +kernel
theorem dX1_takesOrder_97 : decode cX1_takesOrder 97 = .ok (.ireturn, 1) := by decide +kernel
theorem dX2_init_0 : decode cX2_init 0 = .ok (.aload_n 0, 1) := by decide +kernel
theorem dX2_init_1 : decode cX2_init 1 = .ok (.invokespecial 3, 3) := by decide +kernel
theorem dX2_init_4 : decode cX2_init 4 = .ok (.aload_n 0, 1) := by decide +kernel
theorem dX2_init_5 : decode cX2_init 5 = .ok (.bipush 60, 2) := by decide +kernel
theorem dX2_init_7 : decode cX2_init 7 = .ok (.newarray .int, 2) := by decide +kernel
theorem dX2_init_9 : decode cX2_init 9 = .ok (.putfield 9, 3) := by decide +kernel
theorem dX2_init_12 : decode cX2_init 12 = .ok (.return_, 1) := by decide +kernel
theorem dX2_renew_0 : decode cX2_renew 0 = .ok (.aload_n 0, 1) := by decide +kernel
theorem dX2_renew_1 : decode cX2_renew 1 = .ok (.iconst 1, 1) := by decide +kernel
theorem dX2_renew_2 : decode cX2_renew 2 = .ok (.putfield 15, 3) := by decide +kernel
theorem dX2_renew_5 : decode cX2_renew 5 = .ok (.aload_n 0, 1) := by decide +kernel
theorem dX2_renew_6 : decode cX2_renew 6 = .ok (.iload_n 1, 1) := by decide +kernel
theorem dX2_renew_7 : decode cX2_renew 7 = .ok (.putfield 19, 3) := by decide +kernel
theorem dX2_renew_10 : decode cX2_renew 10 = .ok (.aload_n 0, 1) := by decide +kernel
theorem dX2_renew_11 : decode cX2_renew 11 = .ok (.iload_n 2, 1) := by decide +kernel
theorem dX2_renew_12 : decode cX2_renew 12 = .ok (.putfield 23, 3) := by decide +kernel
theorem dX2_renew_15 : decode cX2_renew 15 = .ok (.iconst 0, 1) := by decide +kernel
theorem dX2_renew_16 : decode cX2_renew 16 = .ok (.istore_n 3, 1) := by decide +kernel
theorem dX2_renew_17 : decode cX2_renew 17 = .ok (.iload_n 3, 1) := by decide +kernel
theorem dX2_renew_18 : decode cX2_renew 18 = .ok (.bipush 60, 2) := by decide +kernel
theorem dX2_renew_20 : decode cX2_renew 20 = .ok (.if_icmp .ge 16, 3) := by decide +kernel
theorem dX2_renew_23 : decode cX2_renew 23 = .ok (.aload_n 0, 1) := by decide +kernel
theorem dX2_renew_24 : decode cX2_renew 24 = .ok (.getfield 9, 3) := by decide +kernel
theorem dX2_renew_27 : decode cX2_renew 27 = .ok (.iload_n 3, 1) := by decide +kernel
theorem dX2_renew_28 : decode cX2_renew 28 = .ok (.iconst 0, 1) := by decide +kernel
theorem dX2_renew_29 : decode cX2_renew 29 = .ok (.iastore, 1) := by decide +kernel
theorem dX2_renew_30 : decode cX2_renew 30 = .ok (.iinc 3 1, 3) := by decide +kernel
theorem dX2_renew_33 : decode cX2_renew 33 = .ok (.goto (-16), 3) := by decide +kernel
theorem dX2_renew_36 : decode cX2_renew 36 = .ok (.return_, 1) := by decide +kernel
theorem dX2_faultAs_0 : decode cX2_faultAs 0 = .ok (.aload_n 0, 1) := by decide +kernel
theorem dX2_faultAs_1 : decode cX2_faultAs 1 = .ok (.getfield 15, 3) := by decide +kernel
theorem dX2_faultAs_4 : decode cX2_faultAs 4 = .ok (.ifCond .ne 5, 3) := by decide +kernel
theorem dX2_faultAs_7 : decode cX2_faultAs 7 = .ok (.iconst 1, 1) := by decide +kernel
theorem dX2_faultAs_8 : decode cX2_faultAs 8 = .ok (.ireturn, 1) := by decide +kernel
theorem dX2_faultAs_9 : decode cX2_faultAs 9 = .ok (.aload_n 0, 1) := by decide +kernel
theorem dX2_faultAs_10 : decode cX2_faultAs 10 = .ok (.getfield 19, 3) := by decide +kernel
theorem dX2_faultAs_13 : decode cX2_faultAs 13 = .ok (.iload_n 1, 1) := by decide +kernel
theorem dX2_faultAs_14 : decode cX2_faultAs 14 = .ok (.if_icmp .ne 7, 3) := by decide +kernel
theorem dX2_faultAs_17 : decode cX2_faultAs 17 = .ok (.iconst 0, 1) := by decide +kernel
theorem dX2_faultAs_18 : decode cX2_faultAs 18 = .ok (.goto 4, 3) := by decide +kernel
theorem dX2_faultAs_21 : decode cX2_faultAs 21 = .ok (.iconst 2, 1) := by decide +kernel
theorem dX2_faultAs_22 : decode cX2_faultAs 22 = .ok (.ireturn, 1) := by decide +kernel
theorem dX2_hasCell_0 : decode cX2_hasCell 0 = .ok (.iload_n 1, 1) := by decide +kernel
theorem dX2_hasCell_1 : decode cX2_hasCell 1 = .ok (.ifCond .lt 15, 3) := by decide +kernel
theorem dX2_hasCell_4 : decode cX2_hasCell 4 = .ok (.iload_n 1, 1) := by decide +kernel
theorem dX2_hasCell_5 : decode cX2_hasCell 5 = .ok (.aload_n 0, 1) := by decide +kernel
theorem dX2_hasCell_6 : decode cX2_hasCell 6 = .ok (.getfield 23, 3) := by decide +kernel
theorem dX2_hasCell_9 : decode cX2_hasCell 9 = .ok (.if_icmp .ge 7, 3) := by decide +kernel
theorem dX2_hasCell_12 : decode cX2_hasCell 12 = .ok (.iconst 1, 1) := by decide +kernel
theorem dX2_hasCell_13 : decode cX2_hasCell 13 = .ok (.goto 4, 3) := by decide +kernel
theorem dX2_hasCell_16 : decode cX2_hasCell 16 = .ok (.iconst 0, 1) := by decide +kernel
theorem dX2_hasCell_17 : decode cX2_hasCell 17 = .ok (.ireturn, 1) := by decide +kernel
theorem dX2_hasCells_0 : decode cX2_hasCells 0 = .ok (.iload_n 1, 1) := by decide +kernel
theorem dX2_hasCells_1 : decode cX2_hasCells 1 = .ok (.ifCond .lt 29, 3) := by decide +kernel
theorem dX2_hasCells_4 : decode cX2_hasCells 4 = .ok (.iload_n 1, 1) := by decide +kernel
theorem dX2_hasCells_5 : decode cX2_hasCells 5 = .ok (.aload_n 0, 1) := by decide +kernel
theorem dX2_hasCells_6 : decode cX2_hasCells 6 = .ok (.getfield 23, 3) := by decide +kernel
theorem dX2_hasCells_9 : decode cX2_hasCells 9 = .ok (.if_icmp .gt 21, 3) := by decide +kernel
theorem dX2_hasCells_12 : decode cX2_hasCells 12 = .ok (.iload_n 2, 1) := by decide +kernel
theorem dX2_hasCells_13 : decode cX2_hasCells 13 = .ok (.ifCond .lt 17, 3) := by decide +kernel
theorem dX2_hasCells_16 : decode cX2_hasCells 16 = .ok (.iload_n 2, 1) := by decide +kernel
theorem dX2_hasCells_17 : decode cX2_hasCells 17 = .ok (.aload_n 0, 1) := by decide +kernel
theorem dX2_hasCells_18 : decode cX2_hasCells 18 = .ok (.getfield 23, 3) := by decide +kernel
theorem dX2_hasCells_21 : decode cX2_hasCells 21 = .ok (.iload_n 1, 1) := by decide +kernel
theorem dX2_hasCells_22 : decode cX2_hasCells 22 = .ok (.isub, 1) := by decide +kernel
theorem dX2_hasCells_23 : decode cX2_hasCells 23 = .ok (.if_icmp .gt 7, 3) := by decide +kernel
theorem dX2_hasCells_26 : decode cX2_hasCells 26 = .ok (.iconst 1, 1) := by decide +kernel
theorem dX2_hasCells_27 : decode cX2_hasCells 27 = .ok (.goto 4, 3) := by decide +kernel
theorem dX2_hasCells_30 : decode cX2_hasCells 30 = .ok (.iconst 0, 1) := by decide +kernel
theorem dX2_hasCells_31 : decode cX2_hasCells 31 = .ok (.ireturn, 1) := by decide +kernel
theorem dJ6_bitCount_0f7a4_0 : decode cJ6_bitCount_0f7a4 0 = .ok (.iload_n 0, 1) := by decide +kernel
theorem dJ6_bitCount_0f7a4_1 : decode cJ6_bitCount_0f7a4 1 = .ok (.iload_n 0, 1) := by decide +kernel
theorem dJ6_bitCount_0f7a4_2 : decode cJ6_bitCount_0f7a4 2 = .ok (.iconst 1, 1) := by decide +kernel
theorem dJ6_bitCount_0f7a4_3 : decode cJ6_bitCount_0f7a4 3 = .ok (.iushr, 1) := by decide +kernel
theorem dJ6_bitCount_0f7a4_4 : decode cJ6_bitCount_0f7a4 4 = .ok (.ldc_w 265, 3) := by decide +kernel
theorem dJ6_bitCount_0f7a4_7 : decode cJ6_bitCount_0f7a4 7 = .ok (.iand, 1) := by decide +kernel
theorem dJ6_bitCount_0f7a4_8 : decode cJ6_bitCount_0f7a4 8 = .ok (.isub, 1) := by decide +kernel
theorem dJ6_bitCount_0f7a4_9 : decode cJ6_bitCount_0f7a4 9 = .ok (.istore_n 0, 1) := by decide +kernel
theorem dJ6_bitCount_0f7a4_10 : decode cJ6_bitCount_0f7a4 10 = .ok (.iload_n 0, 1) := by decide +kernel
theorem dJ6_bitCount_0f7a4_11 : decode cJ6_bitCount_0f7a4 11 = .ok (.ldc_w 266, 3) := by decide +kernel
theorem dJ6_bitCount_0f7a4_14 : decode cJ6_bitCount_0f7a4 14 = .ok (.iand, 1) := by decide +kernel
theorem dJ6_bitCount_0f7a4_15 : decode cJ6_bitCount_0f7a4 15 = .ok (.iload_n 0, 1) := by decide +kernel
theorem dJ6_bitCount_0f7a4_16 : decode cJ6_bitCount_0f7a4 16 = .ok (.iconst 2, 1) := by decide +kernel
theorem dJ6_bitCount_0f7a4_17 : decode cJ6_bitCount_0f7a4 17 = .ok (.iushr, 1) := by decide +kernel
theorem dJ6_bitCount_0f7a4_18 : decode cJ6_bitCount_0f7a4 18 = .ok (.ldc_w 266, 3) := by decide +kernel
theorem dJ6_bitCount_0f7a4_21 : decode cJ6_bitCount_0f7a4 21 = .ok (.iand, 1) := by decide +kernel
theorem dJ6_bitCount_0f7a4_22 : decode cJ6_bitCount_0f7a4 22 = .ok (.iadd, 1) := by decide +kernel
theorem dJ6_bitCount_0f7a4_23 : decode cJ6_bitCount_0f7a4 23 = .ok (.istore_n 0, 1) := by decide +kernel
theorem dJ6_bitCount_0f7a4_24 : decode cJ6_bitCount_0f7a4 24 = .ok (.iload_n 0, 1) := by decide +kernel
theorem dJ6_bitCount_0f7a4_25 : decode cJ6_bitCount_0f7a4 25 = .ok (.iload_n 0, 1) := by decide +kernel
theorem dJ6_bitCount_0f7a4_26 : decode cJ6_bitCount_0f7a4 26 = .ok (.iconst 4, 1) := by decide +kernel
theorem dJ6_bitCount_0f7a4_27 : decode cJ6_bitCount_0f7a4 27 = .ok (.iushr, 1) := by decide +kernel
theorem dJ6_bitCount_0f7a4_28 : decode cJ6_bitCount_0f7a4 28 = .ok (.iadd, 1) := by decide +kernel
theorem dJ6_bitCount_0f7a4_29 : decode cJ6_bitCount_0f7a4 29 = .ok (.ldc_w 267, 3) := by decide +kernel
theorem dJ6_bitCount_0f7a4_32 : decode cJ6_bitCount_0f7a4 32 = .ok (.iand, 1) := by decide +kernel
theorem dJ6_bitCount_0f7a4_33 : decode cJ6_bitCount_0f7a4 33 = .ok (.istore_n 0, 1) := by decide +kernel
theorem dJ6_bitCount_0f7a4_34 : decode cJ6_bitCount_0f7a4 34 = .ok (.iload_n 0, 1) := by decide +kernel
theorem dJ6_bitCount_0f7a4_35 : decode cJ6_bitCount_0f7a4 35 = .ok (.iload_n 0, 1) := by decide +kernel
theorem dJ6_bitCount_0f7a4_36 : decode cJ6_bitCount_0f7a4 36 = .ok (.bipush 8, 2) := by decide +kernel
theorem dJ6_bitCount_0f7a4_38 : decode cJ6_bitCount_0f7a4 38 = .ok (.iushr, 1) := by decide +kernel
theorem dJ6_bitCount_0f7a4_39 : decode cJ6_bitCount_0f7a4 39 = .ok (.iadd, 1) := by decide +kernel
theorem dJ6_bitCount_0f7a4_40 : decode cJ6_bitCount_0f7a4 40 = .ok (.istore_n 0, 1) := by decide +kernel
theorem dJ6_bitCount_0f7a4_41 : decode cJ6_bitCount_0f7a4 41 = .ok (.iload_n 0, 1) := by decide +kernel
theorem dJ6_bitCount_0f7a4_42 : decode cJ6_bitCount_0f7a4 42 = .ok (.iload_n 0, 1) := by decide +kernel
theorem dJ6_bitCount_0f7a4_43 : decode cJ6_bitCount_0f7a4 43 = .ok (.bipush 16, 2) := by decide +kernel
theorem dJ6_bitCount_0f7a4_45 : decode cJ6_bitCount_0f7a4 45 = .ok (.iushr, 1) := by decide +kernel
theorem dJ6_bitCount_0f7a4_46 : decode cJ6_bitCount_0f7a4 46 = .ok (.iadd, 1) := by decide +kernel
theorem dJ6_bitCount_0f7a4_47 : decode cJ6_bitCount_0f7a4 47 = .ok (.istore_n 0, 1) := by decide +kernel
theorem dJ6_bitCount_0f7a4_48 : decode cJ6_bitCount_0f7a4 48 = .ok (.iload_n 0, 1) := by decide +kernel
theorem dJ6_bitCount_0f7a4_49 : decode cJ6_bitCount_0f7a4 49 = .ok (.bipush 63, 2) := by decide +kernel
theorem dJ6_bitCount_0f7a4_51 : decode cJ6_bitCount_0f7a4 51 = .ok (.iand, 1) := by decide +kernel
theorem dJ6_bitCount_0f7a4_52 : decode cJ6_bitCount_0f7a4 52 = .ok (.ireturn, 1) := by decide +kernel
theorem dJ9_max_7cf53_0 : decode cJ9_max_7cf53 0 = .ok (.iload_n 0, 1) := by decide +kernel
theorem dJ9_max_7cf53_1 : decode cJ9_max_7cf53 1 = .ok (.iload_n 1, 1) := by decide +kernel
theorem dJ9_max_7cf53_2 : decode cJ9_max_7cf53 2 = .ok (.if_icmp .lt 7, 3) := by decide +kernel
theorem dJ9_max_7cf53_5 : decode cJ9_max_7cf53 5 = .ok (.iload_n 0, 1) := by decide +kernel
theorem dJ9_max_7cf53_6 : decode cJ9_max_7cf53 6 = .ok (.goto 4, 3) := by decide +kernel
theorem dJ9_max_7cf53_9 : decode cJ9_max_7cf53 9 = .ok (.iload_n 1, 1) := by decide +kernel
theorem dJ9_max_7cf53_10 : decode cJ9_max_7cf53 10 = .ok (.ireturn, 1) := by decide +kernel
end
section
theorem dX3_init_0 : decode cX3_init 0 = .ok (.aload_n 0, 1) := by decide +kernel
theorem dX3_init_1 : decode cX3_init 1 = .ok (.invokespecial 5, 3) := by decide +kernel
theorem dX3_init_4 : decode cX3_init 4 = .ok (.aload_n 0, 1) := by decide +kernel
theorem dX3_init_5 : decode cX3_init 5 = .ok (.new 11, 3) := by decide +kernel
theorem dX3_init_8 : decode cX3_init 8 = .ok (.dup, 1) := by decide +kernel
theorem dX3_init_9 : decode cX3_init 9 = .ok (.invokespecial 13, 3) := by decide +kernel
theorem dX3_init_12 : decode cX3_init 12 = .ok (.putfield 14, 3) := by decide +kernel
theorem dX3_init_15 : decode cX3_init 15 = .ok (.aload_n 0, 1) := by decide +kernel
theorem dX3_init_16 : decode cX3_init 16 = .ok (.new 11, 3) := by decide +kernel
theorem dX3_init_19 : decode cX3_init 19 = .ok (.dup, 1) := by decide +kernel
theorem dX3_init_20 : decode cX3_init 20 = .ok (.invokespecial 13, 3) := by decide +kernel
theorem dX3_init_23 : decode cX3_init 23 = .ok (.putfield 18, 3) := by decide +kernel
theorem dX3_init_26 : decode cX3_init 26 = .ok (.aload_n 0, 1) := by decide +kernel
theorem dX3_init_27 : decode cX3_init 27 = .ok (.new 21, 3) := by decide +kernel
theorem dX3_init_30 : decode cX3_init 30 = .ok (.dup, 1) := by decide +kernel
theorem dX3_init_31 : decode cX3_init 31 = .ok (.invokespecial 23, 3) := by decide +kernel
theorem dX3_init_34 : decode cX3_init 34 = .ok (.putfield 24, 3) := by decide +kernel
theorem dX3_init_37 : decode cX3_init 37 = .ok (.aload_n 0, 1) := by decide +kernel
theorem dX3_init_38 : decode cX3_init 38 = .ok (.iconst 4, 1) := by decide +kernel
theorem dX3_init_39 : decode cX3_init 39 = .ok (.anewarray 28, 3) := by decide +kernel
theorem dX3_init_42 : decode cX3_init 42 = .ok (.putfield 30, 3) := by decide +kernel
theorem dX3_init_45 : decode cX3_init 45 = .ok (.aload_n 0, 1) := by decide +kernel
theorem dX3_init_46 : decode cX3_init 46 = .ok (.bipush 6, 2) := by decide +kernel
theorem dX3_init_48 : decode cX3_init 48 = .ok (.newarray .int, 2) := by decide +kernel
theorem dX3_init_50 : decode cX3_init 50 = .ok (.putfield 34, 3) := by decide +kernel
theorem dX3_init_53 : decode cX3_init 53 = .ok (.aload_n 0, 1) := by decide +kernel
theorem dX3_init_54 : decode cX3_init 54 = .ok (.bipush 8, 2) := by decide +kernel
theorem dX3_init_56 : decode cX3_init 56 = .ok (.newarray .int, 2) := by decide +kernel
theorem dX3_init_58 : decode cX3_init 58 = .ok (.putfield 38, 3) := by decide +kernel
theorem dX3_init_61 : decode cX3_init 61 = .ok (.aload_n 0, 1) := by decide +kernel
theorem dX3_init_62 : decode cX3_init 62 = .ok (.bipush 8, 2) := by decide +kernel
theorem dX3_init_64 : decode cX3_init 64 = .ok (.newarray .int, 2) := by decide +kernel
theorem dX3_init_66 : decode cX3_init 66 = .ok (.putfield 41, 3) := by decide +kernel
theorem dX3_init_69 : decode cX3_init 69 = .ok (.iconst 0, 1) := by decide +kernel
theorem dX3_init_70 : decode cX3_init 70 = .ok (.istore_n 1, 1) := by decide +kernel
theorem dX3_init_71 : decode cX3_init 71 = .ok (.iload_n 1, 1) := by decide +kernel
theorem dX3_init_72 : decode cX3_init 72 = .ok (.iconst 4, 1) := by decide +kernel
theorem dX3_init_73 : decode cX3_init 73 = .ok (.if_icmp .ge 22, 3) := by decide +kernel
theorem dX3_init_76 : decode cX3_init 76 = .ok (.aload_n 0, 1) := by decide +kernel
theorem dX3_init_77 : decode cX3_init 77 = .ok (.getfield 30, 3) := by decide +kernel
theorem dX3_init_80 : decode cX3_init 80 = .ok (.iload_n 1, 1) := by decide +kernel
theorem dX3_init_81 : decode cX3_init 81 = .ok (.new 28, 3) := by decide +kernel
theorem dX3_init_84 : decode cX3_init 84 = .ok (.dup, 1) := by decide +kernel
theorem dX3_init_85 : decode cX3_init 85 = .ok (.invokespecial 44, 3) := by decide +kernel
theorem dX3_init_88 : decode cX3_init 88 = .ok (.aastore, 1) := by decide +kernel
theorem dX3_init_89 : decode cX3_init 89 = .ok (.iinc 1 1, 3) := by decide +kernel
theorem dX3_init_92 : decode cX3_init 92 = .ok (.goto (-21), 3) := by decide +kernel
theorem dX3_init_95 : decode cX3_init 95 = .ok (.return_, 1) := by decide +kernel
theorem dX3_map_0 : decode cX3_map 0 = .ok (.aload_n 0, 1) := by decide +kernel
theorem dX3_map_1 : decode cX3_map 1 = .ok (.iconst 0, 1) := by decide +kernel
theorem dX3_map_2 : decode cX3_map 2 = .ok (.putfield 45, 3) := by decide +kernel
theorem dX3_map_5 : decode cX3_map 5 = .ok (.iload_n 1, 1) := by decide +kernel
theorem dX3_map_6 : decode cX3_map 6 = .ok (.invokestatic 49, 3) := by decide +kernel
theorem dX3_map_9 : decode cX3_map 9 = .ok (.ifCond .ne 5, 3) := by decide +kernel
theorem dX3_map_12 : decode cX3_map 12 = .ok (.iconst (-1), 1) := by decide +kernel
theorem dX3_map_13 : decode cX3_map 13 = .ok (.ireturn, 1) := by decide +kernel
theorem dX3_map_14 : decode cX3_map 14 = .ok (.iload_n 2, 1) := by decide +kernel
theorem dX3_map_15 : decode cX3_map 15 = .ok (.invokestatic 53, 3) := by decide +kernel
theorem dX3_map_18 : decode cX3_map 18 = .ok (.ifCond .ne 6, 3) := by decide +kernel
theorem dX3_map_21 : decode cX3_map 21 = .ok (.bipush (-2), 2) := by decide +kernel
theorem dX3_map_23 : decode cX3_map 23 = .ok (.ireturn, 1) := by decide +kernel
theorem dX3_map_24 : decode cX3_map 24 = .ok (.aload_n 0, 1) := by decide +kernel
theorem dX3_map_25 : decode cX3_map 25 = .ok (.getfield 30, 3) := by decide +kernel
theorem dX3_map_28 : decode cX3_map 28 = .ok (.iload_n 1, 1) := by decide +kernel
theorem dX3_map_29 : decode cX3_map 29 = .ok (.aaload, 1) := by decide +kernel
theorem dX3_map_30 : decode cX3_map 30 = .ok (.astore 5, 2) := by decide +kernel
theorem dX3_map_32 : decode cX3_map 32 = .ok (.aload 5, 2) := by decide +kernel
theorem dX3_map_34 : decode cX3_map 34 = .ok (.iload_n 2, 1) := by decide +kernel
theorem dX3_map_35 : decode cX3_map 35 = .ok (.invokevirtual 56, 3) := by decide +kernel
theorem dX3_map_38 : decode cX3_map 38 = .ok (.istore 6, 2) := by decide +kernel
theorem dX3_map_40 : decode cX3_map 40 = .ok (.iload 6, 2) := by decide +kernel
theorem dX3_map_42 : decode cX3_map 42 = .ok (.ifCond .ne 11, 3) := by decide +kernel
theorem dX3_map_45 : decode cX3_map 45 = .ok (.iload 4, 2) := by decide +kernel
theorem dX3_map_47 : decode cX3_map 47 = .ok (.ifCond .ge 6, 3) := by decide +kernel
theorem dX3_map_50 : decode cX3_map 50 = .ok (.iconst 4, 1) := by decide +kernel
theorem dX3_map_51 : decode cX3_map 51 = .ok (.istore 6, 2) := by decide +kernel
theorem dX3_map_53 : decode cX3_map 53 = .ok (.iload 6, 2) := by decide +kernel
theorem dX3_map_55 : decode cX3_map 55 = .ok (.ifCond .ne 17, 3) := by decide +kernel
theorem dX3_map_58 : decode cX3_map 58 = .ok (.aload 5, 2) := by decide +kernel
theorem dX3_map_60 : decode cX3_map 60 = .ok (.iload_n 3, 1) := by decide +kernel
theorem dX3_map_61 : decode cX3_map 61 = .ok (.iload 4, 2) := by decide +kernel
theorem dX3_map_63 : decode cX3_map 63 = .ok (.invokevirtual 60, 3) := by decide +kernel
theorem dX3_map_66 : decode cX3_map 66 = .ok (.ifCond .ne 6, 3) := by decide +kernel
theorem dX3_map_69 : decode cX3_map 69 = .ok (.iconst 3, 1) := by decide +kernel
theorem dX3_map_70 : decode cX3_map 70 = .ok (.istore 6, 2) := by decide +kernel
theorem dX3_map_72 : decode cX3_map 72 = .ok (.iload 6, 2) := by decide +kernel
theorem dX3_map_74 : decode cX3_map 74 = .ok (.ifCond .eq 10, 3) := by decide +kernel
theorem dX3_map_77 : decode cX3_map 77 = .ok (.aload_n 0, 1) := by decide +kernel
theorem dX3_map_78 : decode cX3_map 78 = .ok (.iload 6, 2) := by decide +kernel
theorem dX3_map_80 : decode cX3_map 80 = .ok (.invokevirtual 64, 3) := by decide +kernel
theorem dX3_map_83 : decode cX3_map 83 = .ok (.ireturn, 1) := by decide +kernel
theorem dX3_map_84 : decode cX3_map 84 = .ok (.aload_n 0, 1) := by decide +kernel
theorem dX3_map_85 : decode cX3_map 85 = .ok (.getfield 24, 3) := by decide +kernel
theorem dX3_map_88 : decode cX3_map 88 = .ok (.aload 5, 2) := by decide +kernel
theorem dX3_map_90 : decode cX3_map 90 = .ok (.getfield 67, 3) := by decide +kernel
theorem dX3_map_93 : decode cX3_map 93 = .ok (.iload_n 3, 1) := by decide +kernel
theorem dX3_map_94 : decode cX3_map 94 = .ok (.iload 4, 2) := by decide +kernel
theorem dX3_map_96 : decode cX3_map 96 = .ok (.invokevirtual 70, 3) := by decide +kernel
theorem dX3_map_99 : decode cX3_map 99 = .ok (.ifCond .ne 14, 3) := by decide +kernel
theorem dX3_map_102 : decode cX3_map 102 = .ok (.bipush (-100), 2) := by decide +kernel
theorem dX3_map_104 : decode cX3_map 104 = .ok (.aload_n 0, 1) := by decide +kernel
theorem dX3_map_105 : decode cX3_map 105 = .ok (.getfield 24, 3) := by decide +kernel
theorem dX3_map_108 : decode cX3_map 108 = .ok (.getfield 74, 3) := by decide +kernel
theorem dX3_map_111 : decode cX3_map 111 = .ok (.isub, 1) := by decide +kernel
theorem dX3_map_112 : decode cX3_map 112 = .ok (.ireturn, 1) := by decide +kernel
theorem dX3_map_113 : decode cX3_map 113 = .ok (.aload_n 0, 1) := by decide +kernel
theorem dX3_map_114 : decode cX3_map 114 = .ok (.getfield 14, 3) := by decide +kernel
theorem dX3_map_117 : decode cX3_map 117 = .ok (.aload_n 0, 1) := by decide +kernel
theorem dX3_map_118 : decode cX3_map 118 = .ok (.getfield 24, 3) := by decide +kernel
theorem dX3_map_121 : decode cX3_map 121 = .ok (.getfield 77, 3) := by decide +kernel
theorem dX3_map_124 : decode cX3_map 124 = .ok (.invokevirtual 80, 3) := by decide +kernel
theorem dX3_map_127 : decode cX3_map 127 = .ok (.aload_n 0, 1) := by decide +kernel
theorem dX3_map_128 : decode cX3_map 128 = .ok (.iconst 0, 1) := by decide +kernel
theorem dX3_map_129 : decode cX3_map 129 = .ok (.putfield 84, 3) := by decide +kernel
theorem dX3_map_132 : decode cX3_map 132 = .ok (.aload_n 0, 1) := by decide +kernel
theorem dX3_map_133 : decode cX3_map 133 = .ok (.getfield 14, 3) := by decide +kernel
theorem dX3_map_136 : decode cX3_map 136 = .ok (.getfield 87, 3) := by decide +kernel
theorem dX3_map_139 : decode cX3_map 139 = .ok (.ireturn, 1) := by decide +kernel
theorem dX3_ofArea_0 : decode cX3_ofArea 0 = .ok (.aload_n 0, 1) := by decide +kernel
theorem dX3_ofArea_1 : decode cX3_ofArea 1 = .ok (.getfield 14, 3) := by decide +kernel
theorem dX3_ofArea_4 : decode cX3_ofArea 4 = .ok (.iload_n 1, 1) := by decide +kernel
theorem dX3_ofArea_5 : decode cX3_ofArea 5 = .ok (.invokevirtual 90, 3) := by decide +kernel
theorem dX3_ofArea_8 : decode cX3_ofArea 8 = .ok (.ifCond .ne 5, 3) := by decide +kernel
theorem dX3_ofArea_11 : decode cX3_ofArea 11 = .ok (.iconst (-1), 1) := by decide +kernel
theorem dX3_ofArea_12 : decode cX3_ofArea 12 = .ok (.ireturn, 1) := by decide +kernel
theorem dX3_ofArea_13 : decode cX3_ofArea 13 = .ok (.iload_n 2, 1) := by decide +kernel
theorem dX3_ofArea_14 : decode cX3_ofArea 14 = .ok (.tableswitch 204 0 12 #[66, 76, 86, 96, 106, 116, 126, 135, 144, 153, 170, 180, 192], 66) := by decide +kernel
theorem dX3_ofArea_80 : decode cX3_ofArea 80 = .ok (.aload_n 0, 1) := by decide +kernel
theorem dX3_ofArea_81 : decode cX3_ofArea 81 = .ok (.getfield 14, 3) := by decide +kernel
theorem dX3_ofArea_84 : decode cX3_ofArea 84 = .ok (.getfield 93, 3) := by decide +kernel
theorem dX3_ofArea_87 : decode cX3_ofArea 87 = .ok (.iload_n 1, 1) := by decide +kernel
theorem dX3_ofArea_88 : decode cX3_ofArea 88 = .ok (.iaload, 1) := by decide +kernel
theorem dX3_ofArea_89 : decode cX3_ofArea 89 = .ok (.ireturn, 1) := by decide +kernel
theorem dX3_ofArea_90 : decode cX3_ofArea 90 = .ok (.aload_n 0, 1) := by decide +kernel
theorem dX3_ofArea_91 : decode cX3_ofArea 91 = .ok (.getfield 14, 3) := by decide +kernel
theorem dX3_ofArea_94 : decode cX3_ofArea 94 = .ok (.getfield 96, 3) := by decide +kernel
theorem dX3_ofArea_97 : decode cX3_ofArea 97 = .ok (.iload_n 1, 1) := by decide +kernel
theorem dX3_ofArea_98 : decode cX3_ofArea 98 = .ok (.iaload, 1) := by decide +kernel
theorem dX3_ofArea_99 : decode cX3_ofArea 99 = .ok (.ireturn, 1) := by decide +kernel
theorem dX3_ofArea_100 : decode cX3_ofArea 100 = .ok (.aload_n 0, 1) := by decide +kernel
theorem dX3_ofArea_101 : decode cX3_ofArea 101 = .ok (.getfield 14, 3) := by decide +kernel
theorem dX3_ofArea_104 : decode cX3_ofArea 104 = .ok (.getfield 99, 3) := by decide +kernel
theorem dX3_ofArea_107 : decode cX3_ofArea 107 = .ok (.iload_n 1, 1) := by decide +kernel
theorem dX3_ofArea_108 : decode cX3_ofArea 108 = .ok (.iaload, 1) := by decide +kernel
theorem dX3_ofArea_109 : decode cX3_ofArea 109 = .ok (.ireturn, 1) := by decide +kernel
theorem dX3_ofArea_110 : decode cX3_ofArea 110 = .ok (.aload_n 0, 1) := by decide +kernel
theorem dX3_ofArea_111 : decode cX3_ofArea 111 = .ok (.getfield 14, 3) := by decide +kernel
theorem dX3_ofArea_114 : decode cX3_ofArea 114 = .ok (.getfield 102, 3) := by decide +kernel
theorem dX3_ofArea_117 : decode cX3_ofArea 117 = .ok (.iload_n 1, 1) := by decide +kernel
theorem dX3_ofArea_118 : decode cX3_ofArea 118 = .ok (.iaload, 1) := by decide +kernel
theorem dX3_ofArea_119 : decode cX3_ofArea 119 = .ok (.ireturn, 1) := by decide +kernel
theorem dX3_ofArea_120 : decode cX3_ofArea 120 = .ok (.aload_n 0, 1) := by decide +kernel
theorem dX3_ofArea_121 : decode cX3_ofArea 121 = .ok (.getfield 14, 3) := by decide +kernel
theorem dX3_ofArea_124 : decode cX3_ofArea 124 = .ok (.getfield 105, 3) := by decide +kernel
theorem dX3_ofArea_127 : decode cX3_ofArea 127 = .ok (.iload_n 1, 1) := by decide +kernel
theorem dX3_ofArea_128 : decode cX3_ofArea 128 = .ok (.iaload, 1) := by decide +kernel
theorem dX3_ofArea_129 : decode cX3_ofArea 129 = .ok (.ireturn, 1) := by decide +kernel
theorem dX3_ofArea_130 : decode cX3_ofArea 130 = .ok (.aload_n 0, 1) := by decide +kernel
theorem dX3_ofArea_131 : decode cX3_ofArea 131 = .ok (.getfield 14, 3) := by decide +kernel
theorem dX3_ofArea_134 : decode cX3_ofArea 134 = .ok (.getfield 108, 3) := by decide +kernel
theorem dX3_ofArea_137 : decode cX3_ofArea 137 = .ok (.iload_n 1, 1) := by decide +kernel
theorem dX3_ofArea_138 : decode cX3_ofArea 138 = .ok (.iaload, 1) := by decide +kernel
theorem dX3_ofArea_139 : decode cX3_ofArea 139 = .ok (.ireturn, 1) := by decide +kernel
theorem dX3_ofArea_140 : decode cX3_ofArea 140 = .ok (.aload_n 0, 1) := by decide +kernel
theorem dX3_ofArea_141 : decode cX3_ofArea 141 = .ok (.getfield 14, 3) := by decide +kernel
theorem dX3_ofArea_144 : decode cX3_ofArea 144 = .ok (.iload_n 1, 1) := by decide +kernel
theorem dX3_ofArea_145 : decode cX3_ofArea 145 = .ok (.invokevirtual 111, 3) := by decide +kernel
theorem dX3_ofArea_148 : decode cX3_ofArea 148 = .ok (.ireturn, 1) := by decide +kernel
theorem dX3_ofArea_149 : decode cX3_ofArea 149 = .ok (.aload_n 0, 1) := by decide +kernel
theorem dX3_ofArea_150 : decode cX3_ofArea 150 = .ok (.getfield 14, 3) := by decide +kernel
theorem dX3_ofArea_153 : decode cX3_ofArea 153 = .ok (.iload_n 1, 1) := by decide +kernel
theorem dX3_ofArea_154 : decode cX3_ofArea 154 = .ok (.invokevirtual 114, 3) := by decide +kernel
theorem dX3_ofArea_157 : decode cX3_ofArea 157 = .ok (.ireturn, 1) := by decide +kernel
theorem dX3_ofArea_158 : decode cX3_ofArea 158 = .ok (.aload_n 0, 1) := by decide +kernel
theorem dX3_ofArea_159 : decode cX3_ofArea 159 = .ok (.getfield 14, 3) := by decide +kernel
theorem dX3_ofArea_162 : decode cX3_ofArea 162 = .ok (.iload_n 1, 1) := by decide +kernel
theorem dX3_ofArea_163 : decode cX3_ofArea 163 = .ok (.invokevirtual 117, 3) := by decide +kernel
theorem dX3_ofArea_166 : decode cX3_ofArea 166 = .ok (.ireturn, 1) := by decide +kernel
theorem dX3_ofArea_167 : decode cX3_ofArea 167 = .ok (.aload_n 0, 1) := by decide +kernel
theorem dX3_ofArea_168 : decode cX3_ofArea 168 = .ok (.getfield 14, 3) := by decide +kernel
theorem dX3_ofArea_171 : decode cX3_ofArea 171 = .ok (.iload_n 1, 1) := by decide +kernel
theorem dX3_ofArea_172 : decode cX3_ofArea 172 = .ok (.invokevirtual 120, 3) := by decide +kernel
theorem dX3_ofArea_175 : decode cX3_ofArea 175 = .ok (.ifCond .eq 7, 3) := by decide +kernel
theorem dX3_ofArea_178 : decode cX3_ofArea 178 = .ok (.iconst 1, 1) := by decide +kernel
theorem dX3_ofArea_179 : decode cX3_ofArea 179 = .ok (.goto 4, 3) := by decide +kernel
theorem dX3_ofArea_182 : decode cX3_ofArea 182 = .ok (.iconst 0, 1) := by decide +kernel
theorem dX3_ofArea_183 : decode cX3_ofArea 183 = .ok (.ireturn, 1) := by decide +kernel
theorem dX3_ofArea_184 : decode cX3_ofArea 184 = .ok (.aload_n 0, 1) := by decide +kernel
theorem dX3_ofArea_185 : decode cX3_ofArea 185 = .ok (.getfield 14, 3) := by decide +kernel
theorem dX3_ofArea_188 : decode cX3_ofArea 188 = .ok (.getfield 123, 3) := by decide +kernel
theorem dX3_ofArea_191 : decode cX3_ofArea 191 = .ok (.iload_n 1, 1) := by decide +kernel
theorem dX3_ofArea_192 : decode cX3_ofArea 192 = .ok (.iaload, 1) := by decide +kernel
theorem dX3_ofArea_193 : decode cX3_ofArea 193 = .ok (.ireturn, 1) := by decide +kernel
theorem dX3_ofArea_194 : decode cX3_ofArea 194 = .ok (.aload_n 0, 1) := by decide +kernel
theorem dX3_ofArea_195 : decode cX3_ofArea 195 = .ok (.getfield 14, 3) := by decide +kernel
theorem dX3_ofArea_198 : decode cX3_ofArea 198 = .ok (.getfield 126, 3) := by decide +kernel
theorem dX3_ofArea_201 : decode cX3_ofArea 201 = .ok (.iconst 0, 1) := by decide +kernel
theorem dX3_ofArea_202 : decode cX3_ofArea 202 = .ok (.aaload, 1) := by decide +kernel
theorem dX3_ofArea_203 : decode cX3_ofArea 203 = .ok (.iload_n 1, 1) := by decide +kernel
theorem dX3_ofArea_204 : decode cX3_ofArea 204 = .ok (.iaload, 1) := by decide +kernel
theorem dX3_ofArea_205 : decode cX3_ofArea 205 = .ok (.ireturn, 1) := by decide +kernel
theorem dX3_ofArea_206 : decode cX3_ofArea 206 = .ok (.aload_n 0, 1) := by decide +kernel
theorem dX3_ofArea_207 : decode cX3_ofArea 207 = .ok (.getfield 14, 3) := by decide +kernel
theorem dX3_ofArea_210 : decode cX3_ofArea 210 = .ok (.getfield 126, 3) := by decide +kernel
theorem dX3_ofArea_213 : decode cX3_ofArea 213 = .ok (.iconst 1, 1) := by decide +kernel
theorem dX3_ofArea_214 : decode cX3_ofArea 214 = .ok (.aaload, 1) := by decide +kernel
theorem dX3_ofArea_215 : decode cX3_ofArea 215 = .ok (.iload_n 1, 1) := by decide +kernel
theorem dX3_ofArea_216 : decode cX3_ofArea 216 = .ok (.iaload, 1) := by decide +kernel
theorem dX3_ofArea_217 : decode cX3_ofArea 217 = .ok (.ireturn, 1) := by decide +kernel
theorem dX3_ofArea_218 : decode cX3_ofArea 218 = .ok (.bipush (-2), 2) := by decide +kernel
theorem dX3_ofArea_220 : decode cX3_ofArea 220 = .ok (.ireturn, 1) := by decide +kernel
theorem dX3_width_0 : decode cX3_width 0 = .ok (.aload_n 0, 1) := by decide +kernel
theorem dX3_width_1 : decode cX3_width 1 = .ok (.getfield 14, 3) := by decide +kernel
theorem dX3_width_4 : decode cX3_width 4 = .ok (.iload_n 1, 1) := by decide +kernel
theorem dX3_width_5 : decode cX3_width 5 = .ok (.invokevirtual 90, 3) := by decide +kernel
theorem dX3_width_8 : decode cX3_width 8 = .ok (.ifCond .ne 5, 3) := by decide +kernel
theorem dX3_width_11 : decode cX3_width 11 = .ok (.iconst (-1), 1) := by decide +kernel
theorem dX3_width_12 : decode cX3_width 12 = .ok (.ireturn, 1) := by decide +kernel
theorem dX3_width_13 : decode cX3_width 13 = .ok (.iload_n 2, 1) := by decide +kernel
theorem dX3_width_14 : decode cX3_width 14 = .ok (.invokestatic 130, 3) := by decide +kernel
theorem dX3_width_17 : decode cX3_width 17 = .ok (.ifCond .ne 6, 3) := by decide +kernel
theorem dX3_width_20 : decode cX3_width 20 = .ok (.bipush (-2), 2) := by decide +kernel
theorem dX3_width_22 : decode cX3_width 22 = .ok (.ireturn, 1) := by decide +kernel
theorem dX3_width_23 : decode cX3_width 23 = .ok (.aload_n 0, 1) := by decide +kernel
theorem dX3_width_24 : decode cX3_width 24 = .ok (.getfield 14, 3) := by decide +kernel
theorem dX3_width_27 : decode cX3_width 27 = .ok (.getfield 99, 3) := by decide +kernel
theorem dX3_width_30 : decode cX3_width 30 = .ok (.iload_n 1, 1) := by decide +kernel
theorem dX3_width_31 : decode cX3_width 31 = .ok (.iaload, 1) := by decide +kernel
theorem dX3_width_32 : decode cX3_width 32 = .ok (.istore_n 3, 1) := by decide +kernel
theorem dX3_width_33 : decode cX3_width 33 = .ok (.aload_n 0, 1) := by decide +kernel
theorem dX3_width_34 : decode cX3_width 34 = .ok (.getfield 14, 3) := by decide +kernel
theorem dX3_width_37 : decode cX3_width 37 = .ok (.getfield 99, 3) := by decide +kernel
theorem dX3_width_40 : decode cX3_width 40 = .ok (.iload_n 1, 1) := by decide +kernel
theorem dX3_width_41 : decode cX3_width 41 = .ok (.iload_n 2, 1) := by decide +kernel
theorem dX3_width_42 : decode cX3_width 42 = .ok (.iastore, 1) := by decide +kernel
theorem dX3_width_43 : decode cX3_width 43 = .ok (.aload_n 0, 1) := by decide +kernel
theorem dX3_width_44 : decode cX3_width 44 = .ok (.getfield 14, 3) := by decide +kernel
theorem dX3_width_47 : decode cX3_width 47 = .ok (.invokevirtual 133, 3) := by decide +kernel
theorem dX3_width_50 : decode cX3_width 50 = .ok (.iload_n 3, 1) := by decide +kernel
theorem dX3_width_51 : decode cX3_width 51 = .ok (.ireturn, 1) := by decide +kernel
theorem dX3_plot_0 : decode cX3_plot 0 = .ok (.aload_n 0, 1) := by decide +kernel
theorem dX3_plot_1 : decode cX3_plot 1 = .ok (.getfield 14, 3) := by decide +kernel
theorem dX3_plot_4 : decode cX3_plot 4 = .ok (.iload_n 1, 1) := by decide +kernel
theorem dX3_plot_5 : decode cX3_plot 5 = .ok (.invokevirtual 90, 3) := by decide +kernel
theorem dX3_plot_8 : decode cX3_plot 8 = .ok (.ifCond .ne 5, 3) := by decide +kernel
theorem dX3_plot_11 : decode cX3_plot 11 = .ok (.iconst (-1), 1) := by decide +kernel
theorem dX3_plot_12 : decode cX3_plot 12 = .ok (.ireturn, 1) := by decide +kernel
theorem dX3_plot_13 : decode cX3_plot 13 = .ok (.iload_n 2, 1) := by decide +kernel
theorem dX3_plot_14 : decode cX3_plot 14 = .ok (.invokestatic 136, 3) := by decide +kernel
theorem dX3_plot_17 : decode cX3_plot 17 = .ok (.ifCond .ne 6, 3) := by decide +kernel
theorem dX3_plot_20 : decode cX3_plot 20 = .ok (.bipush (-2), 2) := by decide +kernel
theorem dX3_plot_22 : decode cX3_plot 22 = .ok (.ireturn, 1) := by decide +kernel
theorem dX3_plot_23 : decode cX3_plot 23 = .ok (.aload_n 0, 1) := by decide +kernel
theorem dX3_plot_24 : decode cX3_plot 24 = .ok (.getfield 14, 3) := by decide +kernel
theorem dX3_plot_27 : decode cX3_plot 27 = .ok (.getfield 96, 3) := by decide +kernel
theorem dX3_plot_30 : decode cX3_plot 30 = .ok (.iload_n 1, 1) := by decide +kernel
theorem dX3_plot_31 : decode cX3_plot 31 = .ok (.iaload, 1) := by decide +kernel
theorem dX3_plot_32 : decode cX3_plot 32 = .ok (.istore_n 3, 1) := by decide +kernel
theorem dX3_plot_33 : decode cX3_plot 33 = .ok (.aload_n 0, 1) := by decide +kernel
theorem dX3_plot_34 : decode cX3_plot 34 = .ok (.getfield 14, 3) := by decide +kernel
theorem dX3_plot_37 : decode cX3_plot 37 = .ok (.getfield 96, 3) := by decide +kernel
theorem dX3_plot_40 : decode cX3_plot 40 = .ok (.iload_n 1, 1) := by decide +kernel
theorem dX3_plot_41 : decode cX3_plot 41 = .ok (.iload_n 2, 1) := by decide +kernel
theorem dX3_plot_42 : decode cX3_plot 42 = .ok (.iastore, 1) := by decide +kernel
theorem dX3_plot_43 : decode cX3_plot 43 = .ok (.aload_n 0, 1) := by decide +kernel
theorem dX3_plot_44 : decode cX3_plot 44 = .ok (.getfield 14, 3) := by decide +kernel
theorem dX3_plot_47 : decode cX3_plot 47 = .ok (.invokevirtual 133, 3) := by decide +kernel
theorem dX3_plot_50 : decode cX3_plot 50 = .ok (.iload_n 3, 1) := by decide +kernel
theorem dX3_plot_51 : decode cX3_plot 51 = .ok (.ireturn, 1) := by decide +kernel
theorem dX3_turn_0 : decode cX3_turn 0 = .ok (.iload_n 1, 1) := by decide +kernel
theorem dX3_turn_1 : decode cX3_turn 1 = .ok (.invokestatic 139, 3) := by decide +kernel
theorem dX3_turn_4 : decode cX3_turn 4 = .ok (.ifCond .ne 6, 3) := by decide +kernel
theorem dX3_turn_7 : decode cX3_turn 7 = .ok (.bipush (-2), 2) := by decide +kernel
theorem dX3_turn_9 : decode cX3_turn 9 = .ok (.ireturn, 1) := by decide +kernel
theorem dX3_turn_10 : decode cX3_turn 10 = .ok (.aload_n 0, 1) := by decide +kernel
theorem dX3_turn_11 : decode cX3_turn 11 = .ok (.getfield 14, 3) := by decide +kernel
theorem dX3_turn_14 : decode cX3_turn 14 = .ok (.iload_n 2, 1) := by decide +kernel
theorem dX3_turn_15 : decode cX3_turn 15 = .ok (.invokevirtual 142, 3) := by decide +kernel
theorem dX3_turn_18 : decode cX3_turn 18 = .ok (.ifCond .ne 5, 3) := by decide +kernel
theorem dX3_turn_21 : decode cX3_turn 21 = .ok (.iconst (-1), 1) := by decide +kernel
theorem dX3_turn_22 : decode cX3_turn 22 = .ok (.ireturn, 1) := by decide +kernel
theorem dX3_turn_23 : decode cX3_turn 23 = .ok (.aload_n 0, 1) := by decide +kernel
theorem dX3_turn_24 : decode cX3_turn 24 = .ok (.getfield 14, 3) := by decide +kernel
theorem dX3_turn_27 : decode cX3_turn 27 = .ok (.iload_n 1, 1) := by decide +kernel
theorem dX3_turn_28 : decode cX3_turn 28 = .ok (.iload_n 2, 1) := by decide +kernel
theorem dX3_turn_29 : decode cX3_turn 29 = .ok (.invokevirtual 145, 3) := by decide +kernel
theorem dX3_turn_32 : decode cX3_turn 32 = .ok (.aload_n 0, 1) := by decide +kernel
theorem dX3_turn_33 : decode cX3_turn 33 = .ok (.getfield 14, 3) := by decide +kernel
theorem dX3_turn_36 : decode cX3_turn 36 = .ok (.invokevirtual 133, 3) := by decide +kernel
theorem dX3_turn_39 : decode cX3_turn 39 = .ok (.aload_n 0, 1) := by decide +kernel
theorem dX3_turn_40 : decode cX3_turn 40 = .ok (.getfield 14, 3) := by decide +kernel
theorem dX3_turn_43 : decode cX3_turn 43 = .ok (.getfield 149, 3) := by decide +kernel
theorem dX3_turn_46 : decode cX3_turn 46 = .ok (.iload_n 1, 1) := by decide +kernel
theorem dX3_turn_47 : decode cX3_turn 47 = .ok (.aaload, 1) := by decide +kernel
theorem dX3_turn_48 : decode cX3_turn 48 = .ok (.iload_n 2, 1) := by decide +kernel
theorem dX3_turn_49 : decode cX3_turn 49 = .ok (.iaload, 1) := by decide +kernel
theorem dX3_turn_50 : decode cX3_turn 50 = .ok (.ireturn, 1) := by decide +kernel
theorem dX3_whole_0 : decode cX3_whole 0 = .ok (.iload_n 1, 1) := by decide +kernel
theorem dX3_whole_1 : decode cX3_whole 1 = .ok (.ifCond .lt 8, 3) := by decide +kernel
theorem dX3_whole_4 : decode cX3_whole 4 = .ok (.iload_n 1, 1) := by decide +kernel
theorem dX3_whole_5 : decode cX3_whole 5 = .ok (.iconst 5, 1) := by decide +kernel
theorem dX3_whole_6 : decode cX3_whole 6 = .ok (.if_icmp .le 6, 3) := by decide +kernel
theorem dX3_whole_9 : decode cX3_whole 9 = .ok (.bipush (-2), 2) := by decide +kernel
theorem dX3_whole_11 : decode cX3_whole 11 = .ok (.ireturn, 1) := by decide +kernel
theorem dX3_whole_12 : decode cX3_whole 12 = .ok (.iload_n 1, 1) := by decide +kernel
theorem dX3_whole_13 : decode cX3_whole 13 = .ok (.iconst 5, 1) := by decide +kernel
theorem dX3_whole_14 : decode cX3_whole 14 = .ok (.if_icmp .ne 11, 3) := by decide +kernel
theorem dX3_whole_17 : decode cX3_whole 17 = .ok (.aload_n 0, 1) := by decide +kernel
theorem dX3_whole_18 : decode cX3_whole 18 = .ok (.getfield 24, 3) := by decide +kernel
theorem dX3_whole_21 : decode cX3_whole 21 = .ok (.getfield 152, 3) := by decide +kernel
theorem dX3_whole_24 : decode cX3_whole 24 = .ok (.ireturn, 1) := by decide +kernel
theorem dX3_whole_25 : decode cX3_whole 25 = .ok (.aload_n 0, 1) := by decide +kernel
theorem dX3_whole_26 : decode cX3_whole 26 = .ok (.getfield 14, 3) := by decide +kernel
theorem dX3_whole_29 : decode cX3_whole 29 = .ok (.getfield 87, 3) := by decide +kernel
theorem dX3_whole_32 : decode cX3_whole 32 = .ok (.ifCond .ne 6, 3) := by decide +kernel
theorem dX3_whole_35 : decode cX3_whole 35 = .ok (.bipush (-3), 2) := by decide +kernel
theorem dX3_whole_37 : decode cX3_whole 37 = .ok (.ireturn, 1) := by decide +kernel
theorem dX3_whole_38 : decode cX3_whole 38 = .ok (.iload_n 1, 1) := by decide +kernel
theorem dX3_whole_39 : decode cX3_whole 39 = .ok (.tableswitch 61 0 3 #[29, 37, 45, 53], 29) := by decide +kernel
theorem dX3_whole_68 : decode cX3_whole 68 = .ok (.aload_n 0, 1) := by decide +kernel
theorem dX3_whole_69 : decode cX3_whole 69 = .ok (.getfield 14, 3) := by decide +kernel
theorem dX3_whole_72 : decode cX3_whole 72 = .ok (.getfield 155, 3) := by decide +kernel
theorem dX3_whole_75 : decode cX3_whole 75 = .ok (.ireturn, 1) := by decide +kernel
theorem dX3_whole_76 : decode cX3_whole 76 = .ok (.aload_n 0, 1) := by decide +kernel
theorem dX3_whole_77 : decode cX3_whole 77 = .ok (.getfield 14, 3) := by decide +kernel
theorem dX3_whole_80 : decode cX3_whole 80 = .ok (.getfield 158, 3) := by decide +kernel
theorem dX3_whole_83 : decode cX3_whole 83 = .ok (.ireturn, 1) := by decide +kernel
theorem dX3_whole_84 : decode cX3_whole 84 = .ok (.aload_n 0, 1) := by decide +kernel
theorem dX3_whole_85 : decode cX3_whole 85 = .ok (.getfield 14, 3) := by decide +kernel
theorem dX3_whole_88 : decode cX3_whole 88 = .ok (.invokevirtual 161, 3) := by decide +kernel
theorem dX3_whole_91 : decode cX3_whole 91 = .ok (.ireturn, 1) := by decide +kernel
theorem dX3_whole_92 : decode cX3_whole 92 = .ok (.aload_n 0, 1) := by decide +kernel
theorem dX3_whole_93 : decode cX3_whole 93 = .ok (.getfield 14, 3) := by decide +kernel
theorem dX3_whole_96 : decode cX3_whole 96 = .ok (.invokevirtual 165, 3) := by decide +kernel
theorem dX3_whole_99 : decode cX3_whole 99 = .ok (.ireturn, 1) := by decide +kernel
theorem dX3_whole_100 : decode cX3_whole 100 = .ok (.aload_n 0, 1) := by decide +kernel
theorem dX3_whole_101 : decode cX3_whole 101 = .ok (.getfield 14, 3) := by decide +kernel
theorem dX3_whole_104 : decode cX3_whole 104 = .ok (.invokevirtual 168, 3) := by decide +kernel
theorem dX3_whole_107 : decode cX3_whole 107 = .ok (.ireturn, 1) := by decide +kernel
theorem dX3_squeeze_0 : decode cX3_squeeze 0 = .ok (.iload_n 1, 1) := by decide +kernel
theorem dX3_squeeze_1 : decode cX3_squeeze 1 = .ok (.iconst 1, 1) := by decide +kernel
theorem dX3_squeeze_2 : decode cX3_squeeze 2 = .ok (.if_icmp .lt 9, 3) := by decide +kernel
theorem dX3_squeeze_5 : decode cX3_squeeze 5 = .ok (.iload_n 1, 1) := by decide +kernel
theorem dX3_squeeze_6 : decode cX3_squeeze 6 = .ok (.bipush 60, 2) := by decide +kernel
theorem dX3_squeeze_8 : decode cX3_squeeze 8 = .ok (.if_icmp .le 6, 3) := by decide +kernel
theorem dX3_squeeze_11 : decode cX3_squeeze 11 = .ok (.bipush (-2), 2) := by decide +kernel
theorem dX3_squeeze_13 : decode cX3_squeeze 13 = .ok (.ireturn, 1) := by decide +kernel
theorem dX3_squeeze_14 : decode cX3_squeeze 14 = .ok (.aload_n 0, 1) := by decide +kernel
theorem dX3_squeeze_15 : decode cX3_squeeze 15 = .ok (.getfield 14, 3) := by decide +kernel
theorem dX3_squeeze_18 : decode cX3_squeeze 18 = .ok (.getfield 87, 3) := by decide +kernel
theorem dX3_squeeze_21 : decode cX3_squeeze 21 = .ok (.ifCond .ne 6, 3) := by decide +kernel
theorem dX3_squeeze_24 : decode cX3_squeeze 24 = .ok (.bipush (-3), 2) := by decide +kernel
theorem dX3_squeeze_26 : decode cX3_squeeze 26 = .ok (.ireturn, 1) := by decide +kernel
theorem dX3_squeeze_27 : decode cX3_squeeze 27 = .ok (.aload_n 0, 1) := by decide +kernel
theorem dX3_squeeze_28 : decode cX3_squeeze 28 = .ok (.getfield 18, 3) := by decide +kernel
theorem dX3_squeeze_31 : decode cX3_squeeze 31 = .ok (.aload_n 0, 1) := by decide +kernel
theorem dX3_squeeze_32 : decode cX3_squeeze 32 = .ok (.getfield 14, 3) := by decide +kernel
theorem dX3_squeeze_35 : decode cX3_squeeze 35 = .ok (.invokevirtual 80, 3) := by decide +kernel
theorem dX3_squeeze_38 : decode cX3_squeeze 38 = .ok (.iconst 0, 1) := by decide +kernel
theorem dX3_squeeze_39 : decode cX3_squeeze 39 = .ok (.istore_n 2, 1) := by decide +kernel
theorem dX3_squeeze_40 : decode cX3_squeeze 40 = .ok (.iload_n 2, 1) := by decide +kernel
theorem dX3_squeeze_41 : decode cX3_squeeze 41 = .ok (.bipush 48, 2) := by decide +kernel
theorem dX3_squeeze_43 : decode cX3_squeeze 43 = .ok (.if_icmp .gt 69, 3) := by decide +kernel
theorem dX3_squeeze_46 : decode cX3_squeeze 46 = .ok (.aload_n 0, 1) := by decide +kernel
theorem dX3_squeeze_47 : decode cX3_squeeze 47 = .ok (.getfield 18, 3) := by decide +kernel
theorem dX3_squeeze_50 : decode cX3_squeeze 50 = .ok (.getfield 155, 3) := by decide +kernel
theorem dX3_squeeze_53 : decode cX3_squeeze 53 = .ok (.iload_n 1, 1) := by decide +kernel
theorem dX3_squeeze_54 : decode cX3_squeeze 54 = .ok (.if_icmp .gt 16, 3) := by decide +kernel
theorem dX3_squeeze_57 : decode cX3_squeeze 57 = .ok (.aload_n 0, 1) := by decide +kernel
theorem dX3_squeeze_58 : decode cX3_squeeze 58 = .ok (.getfield 14, 3) := by decide +kernel
theorem dX3_squeeze_61 : decode cX3_squeeze 61 = .ok (.aload_n 0, 1) := by decide +kernel
theorem dX3_squeeze_62 : decode cX3_squeeze 62 = .ok (.getfield 18, 3) := by decide +kernel
theorem dX3_squeeze_65 : decode cX3_squeeze 65 = .ok (.invokevirtual 80, 3) := by decide +kernel
theorem dX3_squeeze_68 : decode cX3_squeeze 68 = .ok (.iload_n 2, 1) := by decide +kernel
theorem dX3_squeeze_69 : decode cX3_squeeze 69 = .ok (.ireturn, 1) := by decide +kernel
theorem dX3_squeeze_70 : decode cX3_squeeze 70 = .ok (.aload_n 0, 1) := by decide +kernel
theorem dX3_squeeze_71 : decode cX3_squeeze 71 = .ok (.getfield 18, 3) := by decide +kernel
theorem dX3_squeeze_74 : decode cX3_squeeze 74 = .ok (.invokevirtual 171, 3) := by decide +kernel
theorem dX3_squeeze_77 : decode cX3_squeeze 77 = .ok (.istore_n 3, 1) := by decide +kernel
theorem dX3_squeeze_78 : decode cX3_squeeze 78 = .ok (.iload_n 3, 1) := by decide +kernel
theorem dX3_squeeze_79 : decode cX3_squeeze 79 = .ok (.iconst (-1), 1) := by decide +kernel
theorem dX3_squeeze_80 : decode cX3_squeeze 80 = .ok (.if_icmp .ne 6, 3) := by decide +kernel
theorem dX3_squeeze_83 : decode cX3_squeeze 83 = .ok (.bipush (-9), 2) := by decide +kernel
theorem dX3_squeeze_85 : decode cX3_squeeze 85 = .ok (.ireturn, 1) := by decide +kernel
theorem dX3_squeeze_86 : decode cX3_squeeze 86 = .ok (.aload_n 0, 1) := by decide +kernel
theorem dX3_squeeze_87 : decode cX3_squeeze 87 = .ok (.getfield 18, 3) := by decide +kernel
theorem dX3_squeeze_90 : decode cX3_squeeze 90 = .ok (.getfield 99, 3) := by decide +kernel
theorem dX3_squeeze_93 : decode cX3_squeeze 93 = .ok (.iload_n 3, 1) := by decide +kernel
theorem dX3_squeeze_94 : decode cX3_squeeze 94 = .ok (.dup2, 1) := by decide +kernel
theorem dX3_squeeze_95 : decode cX3_squeeze 95 = .ok (.iaload, 1) := by decide +kernel
theorem dX3_squeeze_96 : decode cX3_squeeze 96 = .ok (.iconst 1, 1) := by decide +kernel
theorem dX3_squeeze_97 : decode cX3_squeeze 97 = .ok (.isub, 1) := by decide +kernel
theorem dX3_squeeze_98 : decode cX3_squeeze 98 = .ok (.iastore, 1) := by decide +kernel
theorem dX3_squeeze_99 : decode cX3_squeeze 99 = .ok (.aload_n 0, 1) := by decide +kernel
theorem dX3_squeeze_100 : decode cX3_squeeze 100 = .ok (.getfield 18, 3) := by decide +kernel
theorem dX3_squeeze_103 : decode cX3_squeeze 103 = .ok (.invokevirtual 133, 3) := by decide +kernel
theorem dX3_squeeze_106 : decode cX3_squeeze 106 = .ok (.iinc 2 1, 3) := by decide +kernel
theorem dX3_squeeze_109 : decode cX3_squeeze 109 = .ok (.goto (-69), 3) := by decide +kernel
theorem dX3_squeeze_112 : decode cX3_squeeze 112 = .ok (.bipush (-9), 2) := by decide +kernel
theorem dX3_squeeze_114 : decode cX3_squeeze 114 = .ok (.ireturn, 1) := by decide +kernel
theorem dX3_day_0 : decode cX3_day 0 = .ok (.aload_n 0, 1) := by decide +kernel
theorem dX3_day_1 : decode cX3_day 1 = .ok (.iconst 0, 1) := by decide +kernel
theorem dX3_day_2 : decode cX3_day 2 = .ok (.putfield 45, 3) := by decide +kernel
theorem dX3_day_5 : decode cX3_day 5 = .ok (.iload_n 1, 1) := by decide +kernel
theorem dX3_day_6 : decode cX3_day 6 = .ok (.invokestatic 49, 3) := by decide +kernel
theorem dX3_day_9 : decode cX3_day 9 = .ok (.ifCond .ne 5, 3) := by decide +kernel
theorem dX3_day_12 : decode cX3_day 12 = .ok (.iconst (-1), 1) := by decide +kernel
theorem dX3_day_13 : decode cX3_day 13 = .ok (.ireturn, 1) := by decide +kernel
theorem dX3_day_14 : decode cX3_day 14 = .ok (.iload_n 2, 1) := by decide +kernel
theorem dX3_day_15 : decode cX3_day 15 = .ok (.invokestatic 53, 3) := by decide +kernel
theorem dX3_day_18 : decode cX3_day 18 = .ok (.ifCond .eq 19, 3) := by decide +kernel
theorem dX3_day_21 : decode cX3_day 21 = .ok (.iload 4, 2) := by decide +kernel
theorem dX3_day_23 : decode cX3_day 23 = .ok (.invokestatic 174, 3) := by decide +kernel
theorem dX3_day_26 : decode cX3_day 26 = .ok (.ifCond .eq 11, 3) := by decide +kernel
theorem dX3_day_29 : decode cX3_day 29 = .ok (.iload 5, 2) := by decide +kernel
theorem dX3_day_31 : decode cX3_day 31 = .ok (.invokestatic 177, 3) := by decide +kernel
theorem dX3_day_34 : decode cX3_day 34 = .ok (.ifCond .ne 6, 3) := by decide +kernel
theorem dX3_day_37 : decode cX3_day 37 = .ok (.bipush (-2), 2) := by decide +kernel
theorem dX3_day_39 : decode cX3_day 39 = .ok (.ireturn, 1) := by decide +kernel
theorem dX3_day_40 : decode cX3_day 40 = .ok (.aload_n 0, 1) := by decide +kernel
theorem dX3_day_41 : decode cX3_day 41 = .ok (.getfield 30, 3) := by decide +kernel
theorem dX3_day_44 : decode cX3_day 44 = .ok (.iload_n 1, 1) := by decide +kernel
theorem dX3_day_45 : decode cX3_day 45 = .ok (.aaload, 1) := by decide +kernel
theorem dX3_day_46 : decode cX3_day 46 = .ok (.astore 6, 2) := by decide +kernel
theorem dX3_day_48 : decode cX3_day 48 = .ok (.aload 6, 2) := by decide +kernel
theorem dX3_day_50 : decode cX3_day 50 = .ok (.iload_n 2, 1) := by decide +kernel
theorem dX3_day_51 : decode cX3_day 51 = .ok (.iload_n 3, 1) := by decide +kernel
theorem dX3_day_52 : decode cX3_day 52 = .ok (.iconst 3, 1) := by decide +kernel
theorem dX3_day_53 : decode cX3_day 53 = .ok (.iload 4, 2) := by decide +kernel
theorem dX3_day_55 : decode cX3_day 55 = .ok (.imul, 1) := by decide +kernel
theorem dX3_day_56 : decode cX3_day 56 = .ok (.invokestatic 180, 3) := by decide +kernel
theorem dX3_day_59 : decode cX3_day 59 = .ok (.istore 7, 2) := by decide +kernel
theorem dX3_day_61 : decode cX3_day 61 = .ok (.iload 7, 2) := by decide +kernel
theorem dX3_day_63 : decode cX3_day 63 = .ok (.ifCond .eq 10, 3) := by decide +kernel
theorem dX3_day_66 : decode cX3_day 66 = .ok (.aload_n 0, 1) := by decide +kernel
theorem dX3_day_67 : decode cX3_day 67 = .ok (.iload 7, 2) := by decide +kernel
theorem dX3_day_69 : decode cX3_day 69 = .ok (.invokevirtual 64, 3) := by decide +kernel
theorem dX3_day_72 : decode cX3_day 72 = .ok (.ireturn, 1) := by decide +kernel
theorem dX3_day_73 : decode cX3_day 73 = .ok (.aload_n 0, 1) := by decide +kernel
theorem dX3_day_74 : decode cX3_day 74 = .ok (.getfield 14, 3) := by decide +kernel
theorem dX3_day_77 : decode cX3_day 77 = .ok (.getfield 87, 3) := by decide +kernel
theorem dX3_day_80 : decode cX3_day 80 = .ok (.ifCond .ne 6, 3) := by decide +kernel
theorem dX3_day_83 : decode cX3_day 83 = .ok (.bipush (-3), 2) := by decide +kernel
theorem dX3_day_85 : decode cX3_day 85 = .ok (.ireturn, 1) := by decide +kernel
theorem dX3_day_86 : decode cX3_day 86 = .ok (.aload 6, 2) := by decide +kernel
theorem dX3_day_88 : decode cX3_day 88 = .ok (.getfield 67, 3) := by decide +kernel
theorem dX3_day_91 : decode cX3_day 91 = .ok (.iload_n 3, 1) := by decide +kernel
theorem dX3_day_92 : decode cX3_day 92 = .ok (.iload 4, 2) := by decide +kernel
theorem dX3_day_94 : decode cX3_day 94 = .ok (.invokestatic 184, 3) := by decide +kernel
theorem dX3_day_97 : decode cX3_day 97 = .ok (.ifCond .ne 6, 3) := by decide +kernel
theorem dX3_day_100 : decode cX3_day 100 = .ok (.bipush (-2), 2) := by decide +kernel
theorem dX3_day_102 : decode cX3_day 102 = .ok (.ireturn, 1) := by decide +kernel
theorem dX3_day_103 : decode cX3_day 103 = .ok (.aload_n 0, 1) := by decide +kernel
theorem dX3_day_104 : decode cX3_day 104 = .ok (.aload 6, 2) := by decide +kernel
theorem dX3_day_106 : decode cX3_day 106 = .ok (.getfield 67, 3) := by decide +kernel
theorem dX3_day_109 : decode cX3_day 109 = .ok (.iload_n 3, 1) := by decide +kernel
theorem dX3_day_110 : decode cX3_day 110 = .ok (.iload 4, 2) := by decide +kernel
theorem dX3_day_112 : decode cX3_day 112 = .ok (.invokevirtual 187, 3) := by decide +kernel
theorem dX3_day_115 : decode cX3_day 115 = .ok (.istore 8, 2) := by decide +kernel
theorem dX3_day_117 : decode cX3_day 117 = .ok (.iload 5, 2) := by decide +kernel
theorem dX3_day_119 : decode cX3_day 119 = .ok (.iconst 1, 1) := by decide +kernel
theorem dX3_day_120 : decode cX3_day 120 = .ok (.if_icmp .ne 6, 3) := by decide +kernel
theorem dX3_day_123 : decode cX3_day 123 = .ok (.iload 8, 2) := by decide +kernel
theorem dX3_day_125 : decode cX3_day 125 = .ok (.ireturn, 1) := by decide +kernel
theorem dX3_day_126 : decode cX3_day 126 = .ok (.iload 8, 2) := by decide +kernel
theorem dX3_day_128 : decode cX3_day 128 = .ok (.bipush (-9), 2) := by decide +kernel
theorem dX3_day_130 : decode cX3_day 130 = .ok (.if_icmp .ne 12, 3) := by decide +kernel
theorem dX3_day_133 : decode cX3_day 133 = .ok (.aload_n 0, 1) := by decide +kernel
theorem dX3_day_134 : decode cX3_day 134 = .ok (.iload 5, 2) := by decide +kernel
theorem dX3_day_136 : decode cX3_day 136 = .ok (.invokevirtual 191, 3) := by decide +kernel
theorem dX3_day_139 : decode cX3_day 139 = .ok (.goto 8, 3) := by decide +kernel
theorem dX3_day_142 : decode cX3_day 142 = .ok (.bipush (-100), 2) := by decide +kernel
theorem dX3_day_144 : decode cX3_day 144 = .ok (.iload 8, 2) := by decide +kernel
theorem dX3_day_146 : decode cX3_day 146 = .ok (.isub, 1) := by decide +kernel
theorem dX3_day_147 : decode cX3_day 147 = .ok (.ireturn, 1) := by decide +kernel
theorem dX3_least_0 : decode cX3_least 0 = .ok (.iload_n 1, 1) := by decide +kernel
theorem dX3_least_1 : decode cX3_least 1 = .ok (.iconst (-1), 1) := by decide +kernel
theorem dX3_least_2 : decode cX3_least 2 = .ok (.if_icmp .lt 9, 3) := by decide +kernel
theorem dX3_least_5 : decode cX3_least 5 = .ok (.iload_n 1, 1) := by decide +kernel
theorem dX3_least_6 : decode cX3_least 6 = .ok (.bipush 6, 2) := by decide +kernel
theorem dX3_least_8 : decode cX3_least 8 = .ok (.if_icmp .lt 6, 3) := by decide +kernel
theorem dX3_least_11 : decode cX3_least 11 = .ok (.bipush (-2), 2) := by decide +kernel
theorem dX3_least_13 : decode cX3_least 13 = .ok (.ireturn, 1) := by decide +kernel
theorem dX3_least_14 : decode cX3_least 14 = .ok (.aload_n 0, 1) := by decide +kernel
theorem dX3_least_15 : decode cX3_least 15 = .ok (.getfield 14, 3) := by decide +kernel
theorem dX3_least_18 : decode cX3_least 18 = .ok (.getfield 87, 3) := by decide +kernel
theorem dX3_least_21 : decode cX3_least 21 = .ok (.ifCond .ne 6, 3) := by decide +kernel
theorem dX3_least_24 : decode cX3_least 24 = .ok (.bipush (-3), 2) := by decide +kernel
theorem dX3_least_26 : decode cX3_least 26 = .ok (.ireturn, 1) := by decide +kernel
theorem dX3_least_27 : decode cX3_least 27 = .ok (.aload_n 0, 1) := by decide +kernel
theorem dX3_least_28 : decode cX3_least 28 = .ok (.invokevirtual 194, 3) := by decide +kernel
theorem dX3_least_31 : decode cX3_least 31 = .ok (.istore_n 2, 1) := by decide +kernel
theorem dX3_least_32 : decode cX3_least 32 = .ok (.iload_n 1, 1) := by decide +kernel
theorem dX3_least_33 : decode cX3_least 33 = .ok (.iconst (-1), 1) := by decide +kernel
theorem dX3_least_34 : decode cX3_least 34 = .ok (.if_icmp .ne 5, 3) := by decide +kernel
theorem dX3_least_37 : decode cX3_least 37 = .ok (.iload_n 2, 1) := by decide +kernel
theorem dX3_least_38 : decode cX3_least 38 = .ok (.ireturn, 1) := by decide +kernel
theorem dX3_least_39 : decode cX3_least 39 = .ok (.iload_n 1, 1) := by decide +kernel
theorem dX3_least_40 : decode cX3_least 40 = .ok (.aload_n 0, 1) := by decide +kernel
theorem dX3_least_41 : decode cX3_least 41 = .ok (.getfield 14, 3) := by decide +kernel
theorem dX3_least_44 : decode cX3_least 44 = .ok (.getfield 87, 3) := by decide +kernel
theorem dX3_least_47 : decode cX3_least 47 = .ok (.if_icmp .ge 12, 3) := by decide +kernel
theorem dX3_least_50 : decode cX3_least 50 = .ok (.aload_n 0, 1) := by decide +kernel
theorem dX3_least_51 : decode cX3_least 51 = .ok (.getfield 34, 3) := by decide +kernel
theorem dX3_least_54 : decode cX3_least 54 = .ok (.iload_n 1, 1) := by decide +kernel
theorem dX3_least_55 : decode cX3_least 55 = .ok (.iaload, 1) := by decide +kernel
theorem dX3_least_56 : decode cX3_least 56 = .ok (.goto 5, 3) := by decide +kernel
theorem dX3_least_59 : decode cX3_least 59 = .ok (.bipush (-9), 2) := by decide +kernel
theorem dX3_least_61 : decode cX3_least 61 = .ok (.ireturn, 1) := by decide +kernel
theorem dX3_wishes_0 : decode cX3_wishes 0 = .ok (.aload_n 0, 1) := by decide +kernel
theorem dX3_wishes_1 : decode cX3_wishes 1 = .ok (.iconst 0, 1) := by decide +kernel
theorem dX3_wishes_2 : decode cX3_wishes 2 = .ok (.putfield 45, 3) := by decide +kernel
theorem dX3_wishes_5 : decode cX3_wishes 5 = .ok (.iload_n 1, 1) := by decide +kernel
theorem dX3_wishes_6 : decode cX3_wishes 6 = .ok (.invokestatic 49, 3) := by decide +kernel
theorem dX3_wishes_9 : decode cX3_wishes 9 = .ok (.ifCond .ne 5, 3) := by decide +kernel
theorem dX3_wishes_12 : decode cX3_wishes 12 = .ok (.iconst (-1), 1) := by decide +kernel
theorem dX3_wishes_13 : decode cX3_wishes 13 = .ok (.ireturn, 1) := by decide +kernel
theorem dX3_wishes_14 : decode cX3_wishes 14 = .ok (.iload_n 2, 1) := by decide +kernel
theorem dX3_wishes_15 : decode cX3_wishes 15 = .ok (.invokestatic 53, 3) := by decide +kernel
theorem dX3_wishes_18 : decode cX3_wishes 18 = .ok (.ifCond .eq 11, 3) := by decide +kernel
theorem dX3_wishes_21 : decode cX3_wishes 21 = .ok (.iload 4, 2) := by decide +kernel
theorem dX3_wishes_23 : decode cX3_wishes 23 = .ok (.invokestatic 174, 3) := by decide +kernel
theorem dX3_wishes_26 : decode cX3_wishes 26 = .ok (.ifCond .ne 6, 3) := by decide +kernel
theorem dX3_wishes_29 : decode cX3_wishes 29 = .ok (.bipush (-2), 2) := by decide +kernel
theorem dX3_wishes_31 : decode cX3_wishes 31 = .ok (.ireturn, 1) := by decide +kernel
theorem dX3_wishes_32 : decode cX3_wishes 32 = .ok (.aload_n 0, 1) := by decide +kernel
theorem dX3_wishes_33 : decode cX3_wishes 33 = .ok (.getfield 30, 3) := by decide +kernel
theorem dX3_wishes_36 : decode cX3_wishes 36 = .ok (.iload_n 1, 1) := by decide +kernel
theorem dX3_wishes_37 : decode cX3_wishes 37 = .ok (.aaload, 1) := by decide +kernel
theorem dX3_wishes_38 : decode cX3_wishes 38 = .ok (.astore 5, 2) := by decide +kernel
theorem dX3_wishes_40 : decode cX3_wishes 40 = .ok (.aload 5, 2) := by decide +kernel
theorem dX3_wishes_42 : decode cX3_wishes 42 = .ok (.iload_n 2, 1) := by decide +kernel
theorem dX3_wishes_43 : decode cX3_wishes 43 = .ok (.iload_n 3, 1) := by decide +kernel
theorem dX3_wishes_44 : decode cX3_wishes 44 = .ok (.iconst 2, 1) := by decide +kernel
theorem dX3_wishes_45 : decode cX3_wishes 45 = .ok (.iload 4, 2) := by decide +kernel
theorem dX3_wishes_47 : decode cX3_wishes 47 = .ok (.imul, 1) := by decide +kernel
theorem dX3_wishes_48 : decode cX3_wishes 48 = .ok (.invokestatic 180, 3) := by decide +kernel
theorem dX3_wishes_51 : decode cX3_wishes 51 = .ok (.istore 6, 2) := by decide +kernel
theorem dX3_wishes_53 : decode cX3_wishes 53 = .ok (.iload 6, 2) := by decide +kernel
theorem dX3_wishes_55 : decode cX3_wishes 55 = .ok (.ifCond .eq 10, 3) := by decide +kernel
theorem dX3_wishes_58 : decode cX3_wishes 58 = .ok (.aload_n 0, 1) := by decide +kernel
theorem dX3_wishes_59 : decode cX3_wishes 59 = .ok (.iload 6, 2) := by decide +kernel
theorem dX3_wishes_61 : decode cX3_wishes 61 = .ok (.invokevirtual 64, 3) := by decide +kernel
theorem dX3_wishes_64 : decode cX3_wishes 64 = .ok (.ireturn, 1) := by decide +kernel
theorem dX3_wishes_65 : decode cX3_wishes 65 = .ok (.aload_n 0, 1) := by decide +kernel
theorem dX3_wishes_66 : decode cX3_wishes 66 = .ok (.getfield 14, 3) := by decide +kernel
theorem dX3_wishes_69 : decode cX3_wishes 69 = .ok (.getfield 87, 3) := by decide +kernel
theorem dX3_wishes_72 : decode cX3_wishes 72 = .ok (.ifCond .ne 6, 3) := by decide +kernel
theorem dX3_wishes_75 : decode cX3_wishes 75 = .ok (.bipush (-3), 2) := by decide +kernel
theorem dX3_wishes_77 : decode cX3_wishes 77 = .ok (.ireturn, 1) := by decide +kernel
theorem dX3_wishes_78 : decode cX3_wishes 78 = .ok (.aload_n 0, 1) := by decide +kernel
theorem dX3_wishes_79 : decode cX3_wishes 79 = .ok (.aload 5, 2) := by decide +kernel
theorem dX3_wishes_81 : decode cX3_wishes 81 = .ok (.getfield 67, 3) := by decide +kernel
theorem dX3_wishes_84 : decode cX3_wishes 84 = .ok (.iload_n 3, 1) := by decide +kernel
theorem dX3_wishes_85 : decode cX3_wishes 85 = .ok (.iconst 2, 1) := by decide +kernel
theorem dX3_wishes_86 : decode cX3_wishes 86 = .ok (.iload 4, 2) := by decide +kernel
theorem dX3_wishes_88 : decode cX3_wishes 88 = .ok (.imul, 1) := by decide +kernel
theorem dX3_wishes_89 : decode cX3_wishes 89 = .ok (.invokevirtual 197, 3) := by decide +kernel
theorem dX3_wishes_92 : decode cX3_wishes 92 = .ok (.ifCond .ne 5, 3) := by decide +kernel
theorem dX3_wishes_95 : decode cX3_wishes 95 = .ok (.iconst (-1), 1) := by decide +kernel
theorem dX3_wishes_96 : decode cX3_wishes 96 = .ok (.ireturn, 1) := by decide +kernel
theorem dX3_wishes_97 : decode cX3_wishes 97 = .ok (.iconst 0, 1) := by decide +kernel
theorem dX3_wishes_98 : decode cX3_wishes 98 = .ok (.istore 7, 2) := by decide +kernel
theorem dX3_wishes_100 : decode cX3_wishes 100 = .ok (.iconst 0, 1) := by decide +kernel
theorem dX3_wishes_101 : decode cX3_wishes 101 = .ok (.istore 8, 2) := by decide +kernel
theorem dX3_wishes_103 : decode cX3_wishes 103 = .ok (.iload 8, 2) := by decide +kernel
theorem dX3_wishes_105 : decode cX3_wishes 105 = .ok (.iload 4, 2) := by decide +kernel
theorem dX3_wishes_107 : decode cX3_wishes 107 = .ok (.if_icmp .ge 48, 3) := by decide +kernel
theorem dX3_wishes_110 : decode cX3_wishes 110 = .ok (.aload_n 0, 1) := by decide +kernel
theorem dX3_wishes_111 : decode cX3_wishes 111 = .ok (.getfield 14, 3) := by decide +kernel
theorem dX3_wishes_114 : decode cX3_wishes 114 = .ok (.aload 5, 2) := by decide +kernel
theorem dX3_wishes_116 : decode cX3_wishes 116 = .ok (.getfield 67, 3) := by decide +kernel
theorem dX3_wishes_119 : decode cX3_wishes 119 = .ok (.iload_n 3, 1) := by decide +kernel
theorem dX3_wishes_120 : decode cX3_wishes 120 = .ok (.iconst 2, 1) := by decide +kernel
theorem dX3_wishes_121 : decode cX3_wishes 121 = .ok (.iload 8, 2) := by decide +kernel
theorem dX3_wishes_123 : decode cX3_wishes 123 = .ok (.imul, 1) := by decide +kernel
theorem dX3_wishes_124 : decode cX3_wishes 124 = .ok (.iadd, 1) := by decide +kernel
theorem dX3_wishes_125 : decode cX3_wishes 125 = .ok (.iaload, 1) := by decide +kernel
theorem dX3_wishes_126 : decode cX3_wishes 126 = .ok (.aload 5, 2) := by decide +kernel
theorem dX3_wishes_128 : decode cX3_wishes 128 = .ok (.getfield 67, 3) := by decide +kernel
theorem dX3_wishes_131 : decode cX3_wishes 131 = .ok (.iload_n 3, 1) := by decide +kernel
theorem dX3_wishes_132 : decode cX3_wishes 132 = .ok (.iconst 2, 1) := by decide +kernel
theorem dX3_wishes_133 : decode cX3_wishes 133 = .ok (.iload 8, 2) := by decide +kernel
theorem dX3_wishes_135 : decode cX3_wishes 135 = .ok (.imul, 1) := by decide +kernel
theorem dX3_wishes_136 : decode cX3_wishes 136 = .ok (.iadd, 1) := by decide +kernel
theorem dX3_wishes_137 : decode cX3_wishes 137 = .ok (.iconst 1, 1) := by decide +kernel
theorem dX3_wishes_138 : decode cX3_wishes 138 = .ok (.iadd, 1) := by decide +kernel
theorem dX3_wishes_139 : decode cX3_wishes 139 = .ok (.iaload, 1) := by decide +kernel
theorem dX3_wishes_140 : decode cX3_wishes 140 = .ok (.invokevirtual 200, 3) := by decide +kernel
theorem dX3_wishes_143 : decode cX3_wishes 143 = .ok (.ifCond .eq 6, 3) := by decide +kernel
theorem dX3_wishes_146 : decode cX3_wishes 146 = .ok (.iinc 7 1, 3) := by decide +kernel
theorem dX3_wishes_149 : decode cX3_wishes 149 = .ok (.iinc 8 1, 3) := by decide +kernel
theorem dX3_wishes_152 : decode cX3_wishes 152 = .ok (.goto (-49), 3) := by decide +kernel
theorem dX3_wishes_155 : decode cX3_wishes 155 = .ok (.iload 7, 2) := by decide +kernel
theorem dX3_wishes_157 : decode cX3_wishes 157 = .ok (.ireturn, 1) := by decide +kernel
theorem dX3_reading_0 : decode cX3_reading 0 = .ok (.aload_n 0, 1) := by decide +kernel
theorem dX3_reading_1 : decode cX3_reading 1 = .ok (.getfield 14, 3) := by decide +kernel
theorem dX3_reading_4 : decode cX3_reading 4 = .ok (.iload_n 1, 1) := by decide +kernel
theorem dX3_reading_5 : decode cX3_reading 5 = .ok (.invokevirtual 90, 3) := by decide +kernel
theorem dX3_reading_8 : decode cX3_reading 8 = .ok (.ifCond .ne 5, 3) := by decide +kernel
theorem dX3_reading_11 : decode cX3_reading 11 = .ok (.iconst (-1), 1) := by decide +kernel
theorem dX3_reading_12 : decode cX3_reading 12 = .ok (.ireturn, 1) := by decide +kernel
theorem dX3_reading_13 : decode cX3_reading 13 = .ok (.iload_n 2, 1) := by decide +kernel
theorem dX3_reading_14 : decode cX3_reading 14 = .ok (.ifCond .lt 9, 3) := by decide +kernel
theorem dX3_reading_17 : decode cX3_reading 17 = .ok (.iload_n 2, 1) := by decide +kernel
theorem dX3_reading_18 : decode cX3_reading 18 = .ok (.bipush 120, 2) := by decide +kernel
theorem dX3_reading_20 : decode cX3_reading 20 = .ok (.if_icmp .le 6, 3) := by decide +kernel
theorem dX3_reading_23 : decode cX3_reading 23 = .ok (.bipush (-2), 2) := by decide +kernel
theorem dX3_reading_25 : decode cX3_reading 25 = .ok (.ireturn, 1) := by decide +kernel
theorem dX3_reading_26 : decode cX3_reading 26 = .ok (.aload_n 0, 1) := by decide +kernel
theorem dX3_reading_27 : decode cX3_reading 27 = .ok (.getfield 84, 3) := by decide +kernel
theorem dX3_reading_30 : decode cX3_reading 30 = .ok (.bipush 8, 2) := by decide +kernel
theorem dX3_reading_32 : decode cX3_reading 32 = .ok (.if_icmp .lt 6, 3) := by decide +kernel
theorem dX3_reading_35 : decode cX3_reading 35 = .ok (.bipush (-4), 2) := by decide +kernel
theorem dX3_reading_37 : decode cX3_reading 37 = .ok (.ireturn, 1) := by decide +kernel
theorem dX3_reading_38 : decode cX3_reading 38 = .ok (.aload_n 0, 1) := by decide +kernel
theorem dX3_reading_39 : decode cX3_reading 39 = .ok (.getfield 84, 3) := by decide +kernel
theorem dX3_reading_42 : decode cX3_reading 42 = .ok (.istore_n 3, 1) := by decide +kernel
theorem dX3_reading_43 : decode cX3_reading 43 = .ok (.aload_n 0, 1) := by decide +kernel
theorem dX3_reading_44 : decode cX3_reading 44 = .ok (.getfield 38, 3) := by decide +kernel
theorem dX3_reading_47 : decode cX3_reading 47 = .ok (.iload_n 3, 1) := by decide +kernel
theorem dX3_reading_48 : decode cX3_reading 48 = .ok (.iload_n 1, 1) := by decide +kernel
theorem dX3_reading_49 : decode cX3_reading 49 = .ok (.iastore, 1) := by decide +kernel
theorem dX3_reading_50 : decode cX3_reading 50 = .ok (.aload_n 0, 1) := by decide +kernel
theorem dX3_reading_51 : decode cX3_reading 51 = .ok (.getfield 41, 3) := by decide +kernel
theorem dX3_reading_54 : decode cX3_reading 54 = .ok (.iload_n 3, 1) := by decide +kernel
theorem dX3_reading_55 : decode cX3_reading 55 = .ok (.iload_n 2, 1) := by decide +kernel
theorem dX3_reading_56 : decode cX3_reading 56 = .ok (.iastore, 1) := by decide +kernel
theorem dX3_reading_57 : decode cX3_reading 57 = .ok (.aload_n 0, 1) := by decide +kernel
theorem dX3_reading_58 : decode cX3_reading 58 = .ok (.iload_n 3, 1) := by decide +kernel
theorem dX3_reading_59 : decode cX3_reading 59 = .ok (.iconst 1, 1) := by decide +kernel
theorem dX3_reading_60 : decode cX3_reading 60 = .ok (.iadd, 1) := by decide +kernel
theorem dX3_reading_61 : decode cX3_reading 61 = .ok (.putfield 84, 3) := by decide +kernel
theorem dX3_reading_64 : decode cX3_reading 64 = .ok (.iload_n 3, 1) := by decide +kernel
theorem dX3_reading_65 : decode cX3_reading 65 = .ok (.ireturn, 1) := by decide +kernel
theorem dX3_back_0 : decode cX3_back 0 = .ok (.iload_n 1, 1) := by decide +kernel
theorem dX3_back_1 : decode cX3_back 1 = .ok (.ifCond .lt 11, 3) := by decide +kernel
theorem dX3_back_4 : decode cX3_back 4 = .ok (.iload_n 1, 1) := by decide +kernel
theorem dX3_back_5 : decode cX3_back 5 = .ok (.aload_n 0, 1) := by decide +kernel
theorem dX3_back_6 : decode cX3_back 6 = .ok (.getfield 84, 3) := by decide +kernel
theorem dX3_back_9 : decode cX3_back 9 = .ok (.if_icmp .le 6, 3) := by decide +kernel
theorem dX3_back_12 : decode cX3_back 12 = .ok (.bipush (-2), 2) := by decide +kernel
theorem dX3_back_14 : decode cX3_back 14 = .ok (.ireturn, 1) := by decide +kernel
theorem dX3_back_15 : decode cX3_back 15 = .ok (.aload_n 0, 1) := by decide +kernel
theorem dX3_back_16 : decode cX3_back 16 = .ok (.dup, 1) := by decide +kernel
theorem dX3_back_17 : decode cX3_back 17 = .ok (.getfield 84, 3) := by decide +kernel
theorem dX3_back_20 : decode cX3_back 20 = .ok (.iload_n 1, 1) := by decide +kernel
theorem dX3_back_21 : decode cX3_back 21 = .ok (.isub, 1) := by decide +kernel
theorem dX3_back_22 : decode cX3_back 22 = .ok (.putfield 84, 3) := by decide +kernel
theorem dX3_back_25 : decode cX3_back 25 = .ok (.aload_n 0, 1) := by decide +kernel
theorem dX3_back_26 : decode cX3_back 26 = .ok (.getfield 84, 3) := by decide +kernel
theorem dX3_back_29 : decode cX3_back 29 = .ok (.ireturn, 1) := by decide +kernel
theorem dX3_kinds_0 : decode cX3_kinds 0 = .ok (.aload_n 0, 1) := by decide +kernel
theorem dX3_kinds_1 : decode cX3_kinds 1 = .ok (.getfield 14, 3) := by decide +kernel
theorem dX3_kinds_4 : decode cX3_kinds 4 = .ok (.iload_n 1, 1) := by decide +kernel
theorem dX3_kinds_5 : decode cX3_kinds 5 = .ok (.invokevirtual 90, 3) := by decide +kernel
theorem dX3_kinds_8 : decode cX3_kinds 8 = .ok (.ifCond .ne 5, 3) := by decide +kernel
theorem dX3_kinds_11 : decode cX3_kinds 11 = .ok (.iconst (-1), 1) := by decide +kernel
theorem dX3_kinds_12 : decode cX3_kinds 12 = .ok (.ireturn, 1) := by decide +kernel
theorem dX3_kinds_13 : decode cX3_kinds 13 = .ok (.aload_n 0, 1) := by decide +kernel
theorem dX3_kinds_14 : decode cX3_kinds 14 = .ok (.getfield 18, 3) := by decide +kernel
theorem dX3_kinds_17 : decode cX3_kinds 17 = .ok (.aload_n 0, 1) := by decide +kernel
theorem dX3_kinds_18 : decode cX3_kinds 18 = .ok (.getfield 14, 3) := by decide +kernel
theorem dX3_kinds_21 : decode cX3_kinds 21 = .ok (.invokevirtual 80, 3) := by decide +kernel
theorem dX3_kinds_24 : decode cX3_kinds 24 = .ok (.iconst 0, 1) := by decide +kernel
theorem dX3_kinds_25 : decode cX3_kinds 25 = .ok (.istore_n 2, 1) := by decide +kernel
theorem dX3_kinds_26 : decode cX3_kinds 26 = .ok (.iconst 0, 1) := by decide +kernel
theorem dX3_kinds_27 : decode cX3_kinds 27 = .ok (.istore_n 3, 1) := by decide +kernel
theorem dX3_kinds_28 : decode cX3_kinds 28 = .ok (.iload_n 3, 1) := by decide +kernel
theorem dX3_kinds_29 : decode cX3_kinds 29 = .ok (.iconst 2, 1) := by decide +kernel
theorem dX3_kinds_30 : decode cX3_kinds 30 = .ok (.if_icmp .gt 39, 3) := by decide +kernel
theorem dX3_kinds_33 : decode cX3_kinds 33 = .ok (.aload_n 0, 1) := by decide +kernel
theorem dX3_kinds_34 : decode cX3_kinds 34 = .ok (.getfield 18, 3) := by decide +kernel
theorem dX3_kinds_37 : decode cX3_kinds 37 = .ok (.getfield 93, 3) := by decide +kernel
theorem dX3_kinds_40 : decode cX3_kinds 40 = .ok (.iload_n 1, 1) := by decide +kernel
theorem dX3_kinds_41 : decode cX3_kinds 41 = .ok (.iload_n 3, 1) := by decide +kernel
theorem dX3_kinds_42 : decode cX3_kinds 42 = .ok (.iastore, 1) := by decide +kernel
theorem dX3_kinds_43 : decode cX3_kinds 43 = .ok (.aload_n 0, 1) := by decide +kernel
theorem dX3_kinds_44 : decode cX3_kinds 44 = .ok (.getfield 18, 3) := by decide +kernel
theorem dX3_kinds_47 : decode cX3_kinds 47 = .ok (.invokevirtual 133, 3) := by decide +kernel
theorem dX3_kinds_50 : decode cX3_kinds 50 = .ok (.aload_n 0, 1) := by decide +kernel
theorem dX3_kinds_51 : decode cX3_kinds 51 = .ok (.invokevirtual 203, 3) := by decide +kernel
theorem dX3_kinds_54 : decode cX3_kinds 54 = .ok (.ifCond .eq 9, 3) := by decide +kernel
theorem dX3_kinds_57 : decode cX3_kinds 57 = .ok (.iload_n 2, 1) := by decide +kernel
theorem dX3_kinds_58 : decode cX3_kinds 58 = .ok (.iconst 1, 1) := by decide +kernel
theorem dX3_kinds_59 : decode cX3_kinds 59 = .ok (.iload_n 3, 1) := by decide +kernel
theorem dX3_kinds_60 : decode cX3_kinds 60 = .ok (.ishl, 1) := by decide +kernel
theorem dX3_kinds_61 : decode cX3_kinds 61 = .ok (.ior, 1) := by decide +kernel
theorem dX3_kinds_62 : decode cX3_kinds 62 = .ok (.istore_n 2, 1) := by decide +kernel
theorem dX3_kinds_63 : decode cX3_kinds 63 = .ok (.iinc 3 1, 3) := by decide +kernel
theorem dX3_kinds_66 : decode cX3_kinds 66 = .ok (.goto (-38), 3) := by decide +kernel
theorem dX3_kinds_69 : decode cX3_kinds 69 = .ok (.iload_n 2, 1) := by decide +kernel
theorem dX3_kinds_70 : decode cX3_kinds 70 = .ok (.ireturn, 1) := by decide +kernel
theorem dX3_widths_0 : decode cX3_widths 0 = .ok (.aload_n 0, 1) := by decide +kernel
theorem dX3_widths_1 : decode cX3_widths 1 = .ok (.getfield 14, 3) := by decide +kernel
theorem dX3_widths_4 : decode cX3_widths 4 = .ok (.iload_n 1, 1) := by decide +kernel
theorem dX3_widths_5 : decode cX3_widths 5 = .ok (.invokevirtual 90, 3) := by decide +kernel
theorem dX3_widths_8 : decode cX3_widths 8 = .ok (.ifCond .ne 5, 3) := by decide +kernel
theorem dX3_widths_11 : decode cX3_widths 11 = .ok (.iconst (-1), 1) := by decide +kernel
theorem dX3_widths_12 : decode cX3_widths 12 = .ok (.ireturn, 1) := by decide +kernel
theorem dX3_widths_13 : decode cX3_widths 13 = .ok (.aload_n 0, 1) := by decide +kernel
theorem dX3_widths_14 : decode cX3_widths 14 = .ok (.getfield 18, 3) := by decide +kernel
theorem dX3_widths_17 : decode cX3_widths 17 = .ok (.aload_n 0, 1) := by decide +kernel
theorem dX3_widths_18 : decode cX3_widths 18 = .ok (.getfield 14, 3) := by decide +kernel
theorem dX3_widths_21 : decode cX3_widths 21 = .ok (.invokevirtual 80, 3) := by decide +kernel
theorem dX3_widths_24 : decode cX3_widths 24 = .ok (.iconst 0, 1) := by decide +kernel
theorem dX3_widths_25 : decode cX3_widths 25 = .ok (.istore_n 2, 1) := by decide +kernel
theorem dX3_widths_26 : decode cX3_widths 26 = .ok (.iconst 1, 1) := by decide +kernel
theorem dX3_widths_27 : decode cX3_widths 27 = .ok (.istore_n 3, 1) := by decide +kernel
theorem dX3_widths_28 : decode cX3_widths 28 = .ok (.iload_n 3, 1) := by decide +kernel
theorem dX3_widths_29 : decode cX3_widths 29 = .ok (.bipush 9, 2) := by decide +kernel
theorem dX3_widths_31 : decode cX3_widths 31 = .ok (.if_icmp .gt 39, 3) := by decide +kernel
theorem dX3_widths_34 : decode cX3_widths 34 = .ok (.aload_n 0, 1) := by decide +kernel
theorem dX3_widths_35 : decode cX3_widths 35 = .ok (.getfield 18, 3) := by decide +kernel
theorem dX3_widths_38 : decode cX3_widths 38 = .ok (.getfield 99, 3) := by decide +kernel
theorem dX3_widths_41 : decode cX3_widths 41 = .ok (.iload_n 1, 1) := by decide +kernel
theorem dX3_widths_42 : decode cX3_widths 42 = .ok (.iload_n 3, 1) := by decide +kernel
theorem dX3_widths_43 : decode cX3_widths 43 = .ok (.iastore, 1) := by decide +kernel
theorem dX3_widths_44 : decode cX3_widths 44 = .ok (.aload_n 0, 1) := by decide +kernel
theorem dX3_widths_45 : decode cX3_widths 45 = .ok (.getfield 18, 3) := by decide +kernel
theorem dX3_widths_48 : decode cX3_widths 48 = .ok (.invokevirtual 133, 3) := by decide +kernel
theorem dX3_widths_51 : decode cX3_widths 51 = .ok (.aload_n 0, 1) := by decide +kernel
theorem dX3_widths_52 : decode cX3_widths 52 = .ok (.invokevirtual 203, 3) := by decide +kernel
theorem dX3_widths_55 : decode cX3_widths 55 = .ok (.ifCond .eq 9, 3) := by decide +kernel
theorem dX3_widths_58 : decode cX3_widths 58 = .ok (.iload_n 2, 1) := by decide +kernel
theorem dX3_widths_59 : decode cX3_widths 59 = .ok (.iconst 1, 1) := by decide +kernel
theorem dX3_widths_60 : decode cX3_widths 60 = .ok (.iload_n 3, 1) := by decide +kernel
theorem dX3_widths_61 : decode cX3_widths 61 = .ok (.ishl, 1) := by decide +kernel
theorem dX3_widths_62 : decode cX3_widths 62 = .ok (.ior, 1) := by decide +kernel
theorem dX3_widths_63 : decode cX3_widths 63 = .ok (.istore_n 2, 1) := by decide +kernel
theorem dX3_widths_64 : decode cX3_widths 64 = .ok (.iinc 3 1, 3) := by decide +kernel
theorem dX3_widths_67 : decode cX3_widths 67 = .ok (.goto (-39), 3) := by decide +kernel
theorem dX3_widths_70 : decode cX3_widths 70 = .ok (.iload_n 2, 1) := by decide +kernel
theorem dX3_widths_71 : decode cX3_widths 71 = .ok (.ireturn, 1) := by decide +kernel
theorem dX3_odds_0 : decode cX3_odds 0 = .ok (.iload_n 1, 1) := by decide +kernel
theorem dX3_odds_1 : decode cX3_odds 1 = .ok (.ifCond .lt 19, 3) := by decide +kernel
theorem dX3_odds_4 : decode cX3_odds 4 = .ok (.iload_n 1, 1) := by decide +kernel
theorem dX3_odds_5 : decode cX3_odds 5 = .ok (.sipush 9999, 3) := by decide +kernel
theorem dX3_odds_8 : decode cX3_odds 8 = .ok (.if_icmp .gt 12, 3) := by decide +kernel
theorem dX3_odds_11 : decode cX3_odds 11 = .ok (.iload_n 2, 1) := by decide +kernel
theorem dX3_odds_12 : decode cX3_odds 12 = .ok (.ifCond .lt 8, 3) := by decide +kernel
theorem dX3_odds_15 : decode cX3_odds 15 = .ok (.iload_n 2, 1) := by decide +kernel
theorem dX3_odds_16 : decode cX3_odds 16 = .ok (.iconst 1, 1) := by decide +kernel
theorem dX3_odds_17 : decode cX3_odds 17 = .ok (.if_icmp .le 7, 3) := by decide +kernel
theorem dX3_odds_20 : decode cX3_odds 20 = .ok (.ldc2_w 207, 3) := by decide +kernel
theorem dX3_odds_23 : decode cX3_odds 23 = .ok (.lreturn, 1) := by decide +kernel
theorem dX3_odds_24 : decode cX3_odds 24 = .ok (.aload_n 0, 1) := by decide +kernel
theorem dX3_odds_25 : decode cX3_odds 25 = .ok (.getfield 14, 3) := by decide +kernel
theorem dX3_odds_28 : decode cX3_odds 28 = .ok (.getfield 87, 3) := by decide +kernel
theorem dX3_odds_31 : decode cX3_odds 31 = .ok (.ifCond .ne 7, 3) := by decide +kernel
theorem dX3_odds_34 : decode cX3_odds 34 = .ok (.ldc2_w 207, 3) := by decide +kernel
theorem dX3_odds_37 : decode cX3_odds 37 = .ok (.lreturn, 1) := by decide +kernel
theorem dX3_odds_38 : decode cX3_odds 38 = .ok (.getstatic 209, 3) := by decide +kernel
theorem dX3_odds_41 : decode cX3_odds 41 = .ok (.aload_n 0, 1) := by decide +kernel
theorem dX3_odds_42 : decode cX3_odds 42 = .ok (.getfield 14, 3) := by decide +kernel
theorem dX3_odds_45 : decode cX3_odds 45 = .ok (.getfield 87, 3) := by decide +kernel
theorem dX3_odds_48 : decode cX3_odds 48 = .ok (.iaload, 1) := by decide +kernel
theorem dX3_odds_49 : decode cX3_odds 49 = .ok (.istore_n 3, 1) := by decide +kernel
theorem dX3_odds_50 : decode cX3_odds 50 = .ok (.aload_n 0, 1) := by decide +kernel
theorem dX3_odds_51 : decode cX3_odds 51 = .ok (.iload_n 1, 1) := by decide +kernel
theorem dX3_odds_52 : decode cX3_odds 52 = .ok (.invokevirtual 212, 3) := by decide +kernel
theorem dX3_odds_55 : decode cX3_odds 55 = .ok (.istore 4, 2) := by decide +kernel
theorem dX3_odds_57 : decode cX3_odds 57 = .ok (.iload 4, 2) := by decide +kernel
theorem dX3_odds_59 : decode cX3_odds 59 = .ok (.iload_n 3, 1) := by decide +kernel
theorem dX3_odds_60 : decode cX3_odds 60 = .ok (.invokestatic 215, 3) := by decide +kernel
theorem dX3_odds_63 : decode cX3_odds 63 = .ok (.istore 5, 2) := by decide +kernel
theorem dX3_odds_65 : decode cX3_odds 65 = .ok (.iload 5, 2) := by decide +kernel
theorem dX3_odds_67 : decode cX3_odds 67 = .ok (.iconst 1, 1) := by decide +kernel
theorem dX3_odds_68 : decode cX3_odds 68 = .ok (.if_icmp .ge 7, 3) := by decide +kernel
theorem dX3_odds_71 : decode cX3_odds 71 = .ok (.ldc2_w 207, 3) := by decide +kernel
theorem dX3_odds_74 : decode cX3_odds 74 = .ok (.lreturn, 1) := by decide +kernel
theorem dX3_odds_75 : decode cX3_odds 75 = .ok (.iload_n 2, 1) := by decide +kernel
theorem dX3_odds_76 : decode cX3_odds 76 = .ok (.ifCond .ne 12, 3) := by decide +kernel
theorem dX3_odds_79 : decode cX3_odds 79 = .ok (.iload 4, 2) := by decide +kernel
theorem dX3_odds_81 : decode cX3_odds 81 = .ok (.iload 5, 2) := by decide +kernel
theorem dX3_odds_83 : decode cX3_odds 83 = .ok (.idiv, 1) := by decide +kernel
theorem dX3_odds_84 : decode cX3_odds 84 = .ok (.i2l, 1) := by decide +kernel
theorem dX3_odds_85 : decode cX3_odds 85 = .ok (.goto 8, 3) := by decide +kernel
theorem dX3_odds_88 : decode cX3_odds 88 = .ok (.iload_n 3, 1) := by decide +kernel
theorem dX3_odds_89 : decode cX3_odds 89 = .ok (.iload 5, 2) := by decide +kernel
theorem dX3_odds_91 : decode cX3_odds 91 = .ok (.idiv, 1) := by decide +kernel
theorem dX3_odds_92 : decode cX3_odds 92 = .ok (.i2l, 1) := by decide +kernel
theorem dX3_odds_93 : decode cX3_odds 93 = .ok (.lreturn, 1) := by decide +kernel
theorem dX3_sheet_0 : decode cX3_sheet 0 = .ok (.aload_n 0, 1) := by decide +kernel
theorem dX3_sheet_1 : decode cX3_sheet 1 = .ok (.iconst 0, 1) := by decide +kernel
theorem dX3_sheet_2 : decode cX3_sheet 2 = .ok (.putfield 45, 3) := by decide +kernel
theorem dX3_sheet_5 : decode cX3_sheet 5 = .ok (.iload_n 1, 1) := by decide +kernel
theorem dX3_sheet_6 : decode cX3_sheet 6 = .ok (.invokestatic 49, 3) := by decide +kernel
theorem dX3_sheet_9 : decode cX3_sheet 9 = .ok (.ifCond .ne 5, 3) := by decide +kernel
theorem dX3_sheet_12 : decode cX3_sheet 12 = .ok (.iconst (-1), 1) := by decide +kernel
theorem dX3_sheet_13 : decode cX3_sheet 13 = .ok (.ireturn, 1) := by decide +kernel
theorem dX3_sheet_14 : decode cX3_sheet 14 = .ok (.iload_n 2, 1) := by decide +kernel
theorem dX3_sheet_15 : decode cX3_sheet 15 = .ok (.invokestatic 53, 3) := by decide +kernel
theorem dX3_sheet_18 : decode cX3_sheet 18 = .ok (.ifCond .eq 9, 3) := by decide +kernel
theorem dX3_sheet_21 : decode cX3_sheet 21 = .ok (.iload_n 3, 1) := by decide +kernel
theorem dX3_sheet_22 : decode cX3_sheet 22 = .ok (.bipush 60, 2) := by decide +kernel
theorem dX3_sheet_24 : decode cX3_sheet 24 = .ok (.if_icmp .le 6, 3) := by decide +kernel
theorem dX3_sheet_27 : decode cX3_sheet 27 = .ok (.bipush (-2), 2) := by decide +kernel
theorem dX3_sheet_29 : decode cX3_sheet 29 = .ok (.ireturn, 1) := by decide +kernel
theorem dX3_sheet_30 : decode cX3_sheet 30 = .ok (.iload_n 3, 1) := by decide +kernel
theorem dX3_sheet_31 : decode cX3_sheet 31 = .ok (.ifCond .ge 9, 3) := by decide +kernel
theorem dX3_sheet_34 : decode cX3_sheet 34 = .ok (.aload_n 0, 1) := by decide +kernel
theorem dX3_sheet_35 : decode cX3_sheet 35 = .ok (.iconst 4, 1) := by decide +kernel
theorem dX3_sheet_36 : decode cX3_sheet 36 = .ok (.invokevirtual 64, 3) := by decide +kernel
theorem dX3_sheet_39 : decode cX3_sheet 39 = .ok (.ireturn, 1) := by decide +kernel
theorem dX3_sheet_40 : decode cX3_sheet 40 = .ok (.aload_n 0, 1) := by decide +kernel
theorem dX3_sheet_41 : decode cX3_sheet 41 = .ok (.getfield 30, 3) := by decide +kernel
theorem dX3_sheet_44 : decode cX3_sheet 44 = .ok (.iload_n 1, 1) := by decide +kernel
theorem dX3_sheet_45 : decode cX3_sheet 45 = .ok (.aaload, 1) := by decide +kernel
theorem dX3_sheet_46 : decode cX3_sheet 46 = .ok (.iload_n 2, 1) := by decide +kernel
theorem dX3_sheet_47 : decode cX3_sheet 47 = .ok (.iload_n 3, 1) := by decide +kernel
theorem dX3_sheet_48 : decode cX3_sheet 48 = .ok (.invokevirtual 219, 3) := by decide +kernel
theorem dX3_sheet_51 : decode cX3_sheet 51 = .ok (.iconst 1, 1) := by decide +kernel
theorem dX3_sheet_52 : decode cX3_sheet 52 = .ok (.ireturn, 1) := by decide +kernel
theorem dX3_lose_0 : decode cX3_lose 0 = .ok (.iload_n 1, 1) := by decide +kernel
theorem dX3_lose_1 : decode cX3_lose 1 = .ok (.invokestatic 49, 3) := by decide +kernel
theorem dX3_lose_4 : decode cX3_lose 4 = .ok (.ifCond .ne 5, 3) := by decide +kernel
theorem dX3_lose_7 : decode cX3_lose 7 = .ok (.iconst (-1), 1) := by decide +kernel
theorem dX3_lose_8 : decode cX3_lose 8 = .ok (.ireturn, 1) := by decide +kernel
theorem dX3_lose_9 : decode cX3_lose 9 = .ok (.aload_n 0, 1) := by decide +kernel
theorem dX3_lose_10 : decode cX3_lose 10 = .ok (.getfield 30, 3) := by decide +kernel
theorem dX3_lose_13 : decode cX3_lose 13 = .ok (.iload_n 1, 1) := by decide +kernel
theorem dX3_lose_14 : decode cX3_lose 14 = .ok (.aaload, 1) := by decide +kernel
theorem dX3_lose_15 : decode cX3_lose 15 = .ok (.getfield 222, 3) := by decide +kernel
theorem dX3_lose_18 : decode cX3_lose 18 = .ok (.istore_n 2, 1) := by decide +kernel
theorem dX3_lose_19 : decode cX3_lose 19 = .ok (.aload_n 0, 1) := by decide +kernel
theorem dX3_lose_20 : decode cX3_lose 20 = .ok (.getfield 30, 3) := by decide +kernel
theorem dX3_lose_23 : decode cX3_lose 23 = .ok (.iload_n 1, 1) := by decide +kernel
theorem dX3_lose_24 : decode cX3_lose 24 = .ok (.aaload, 1) := by decide +kernel
theorem dX3_lose_25 : decode cX3_lose 25 = .ok (.iconst 0, 1) := by decide +kernel
theorem dX3_lose_26 : decode cX3_lose 26 = .ok (.putfield 222, 3) := by decide +kernel
theorem dX3_lose_29 : decode cX3_lose 29 = .ok (.iload_n 2, 1) := by decide +kernel
theorem dX3_lose_30 : decode cX3_lose 30 = .ok (.ifCond .eq 7, 3) := by decide +kernel
theorem dX3_lose_33 : decode cX3_lose 33 = .ok (.iconst 1, 1) := by decide +kernel
theorem dX3_lose_34 : decode cX3_lose 34 = .ok (.goto 4, 3) := by decide +kernel
theorem dX3_lose_37 : decode cX3_lose 37 = .ok (.iconst 0, 1) := by decide +kernel
theorem dX3_lose_38 : decode cX3_lose 38 = .ok (.ireturn, 1) := by decide +kernel
theorem dX3_put_0 : decode cX3_put 0 = .ok (.aload_n 0, 1) := by decide +kernel
theorem dX3_put_1 : decode cX3_put 1 = .ok (.iconst 0, 1) := by decide +kernel
theorem dX3_put_2 : decode cX3_put 2 = .ok (.putfield 45, 3) := by decide +kernel
theorem dX3_put_5 : decode cX3_put 5 = .ok (.iload_n 1, 1) := by decide +kernel
theorem dX3_put_6 : decode cX3_put 6 = .ok (.invokestatic 49, 3) := by decide +kernel
theorem dX3_put_9 : decode cX3_put 9 = .ok (.ifCond .ne 5, 3) := by decide +kernel
theorem dX3_put_12 : decode cX3_put 12 = .ok (.iconst (-1), 1) := by decide +kernel
theorem dX3_put_13 : decode cX3_put 13 = .ok (.ireturn, 1) := by decide +kernel
theorem dX3_put_14 : decode cX3_put 14 = .ok (.aload_n 0, 1) := by decide +kernel
theorem dX3_put_15 : decode cX3_put 15 = .ok (.getfield 30, 3) := by decide +kernel
theorem dX3_put_18 : decode cX3_put 18 = .ok (.iload_n 1, 1) := by decide +kernel
theorem dX3_put_19 : decode cX3_put 19 = .ok (.aaload, 1) := by decide +kernel
theorem dX3_put_20 : decode cX3_put 20 = .ok (.astore 4, 2) := by decide +kernel
theorem dX3_put_22 : decode cX3_put 22 = .ok (.aload 4, 2) := by decide +kernel
theorem dX3_put_24 : decode cX3_put 24 = .ok (.getfield 222, 3) := by decide +kernel
theorem dX3_put_27 : decode cX3_put 27 = .ok (.ifCond .ne 9, 3) := by decide +kernel
theorem dX3_put_30 : decode cX3_put 30 = .ok (.aload_n 0, 1) := by decide +kernel
theorem dX3_put_31 : decode cX3_put 31 = .ok (.iconst 1, 1) := by decide +kernel
theorem dX3_put_32 : decode cX3_put 32 = .ok (.invokevirtual 64, 3) := by decide +kernel
theorem dX3_put_35 : decode cX3_put 35 = .ok (.ireturn, 1) := by decide +kernel
theorem dX3_put_36 : decode cX3_put 36 = .ok (.aload 4, 2) := by decide +kernel
theorem dX3_put_38 : decode cX3_put 38 = .ok (.iload_n 2, 1) := by decide +kernel
theorem dX3_put_39 : decode cX3_put 39 = .ok (.invokevirtual 226, 3) := by decide +kernel
theorem dX3_put_42 : decode cX3_put 42 = .ok (.ifCond .ne 9, 3) := by decide +kernel
theorem dX3_put_45 : decode cX3_put 45 = .ok (.aload_n 0, 1) := by decide +kernel
theorem dX3_put_46 : decode cX3_put 46 = .ok (.iconst 3, 1) := by decide +kernel
theorem dX3_put_47 : decode cX3_put 47 = .ok (.invokevirtual 64, 3) := by decide +kernel
theorem dX3_put_50 : decode cX3_put 50 = .ok (.ireturn, 1) := by decide +kernel
theorem dX3_put_51 : decode cX3_put 51 = .ok (.aload 4, 2) := by decide +kernel
theorem dX3_put_53 : decode cX3_put 53 = .ok (.getfield 67, 3) := by decide +kernel
theorem dX3_put_56 : decode cX3_put 56 = .ok (.iload_n 2, 1) := by decide +kernel
theorem dX3_put_57 : decode cX3_put 57 = .ok (.aload 4, 2) := by decide +kernel
theorem dX3_put_59 : decode cX3_put 59 = .ok (.getfield 229, 3) := by decide +kernel
theorem dX3_put_62 : decode cX3_put 62 = .ok (.iload_n 3, 1) := by decide +kernel
theorem dX3_put_63 : decode cX3_put 63 = .ok (.invokestatic 232, 3) := by decide +kernel
theorem dX3_put_66 : decode cX3_put 66 = .ok (.iastore, 1) := by decide +kernel
theorem dX3_put_67 : decode cX3_put 67 = .ok (.iconst 1, 1) := by decide +kernel
theorem dX3_put_68 : decode cX3_put 68 = .ok (.ireturn, 1) := by decide +kernel
theorem dX3_cell_0 : decode cX3_cell 0 = .ok (.aload_n 0, 1) := by decide +kernel
theorem dX3_cell_1 : decode cX3_cell 1 = .ok (.iconst 0, 1) := by decide +kernel
theorem dX3_cell_2 : decode cX3_cell 2 = .ok (.putfield 45, 3) := by decide +kernel
theorem dX3_cell_5 : decode cX3_cell 5 = .ok (.iload_n 1, 1) := by decide +kernel
theorem dX3_cell_6 : decode cX3_cell 6 = .ok (.invokestatic 49, 3) := by decide +kernel
theorem dX3_cell_9 : decode cX3_cell 9 = .ok (.ifCond .eq 10, 3) := by decide +kernel
theorem dX3_cell_12 : decode cX3_cell 12 = .ok (.iload_n 3, 1) := by decide +kernel
theorem dX3_cell_13 : decode cX3_cell 13 = .ok (.invokestatic 53, 3) := by decide +kernel
theorem dX3_cell_16 : decode cX3_cell 16 = .ok (.ifCond .ne 7, 3) := by decide +kernel
theorem dX3_cell_19 : decode cX3_cell 19 = .ok (.ldc2_w 207, 3) := by decide +kernel
theorem dX3_cell_22 : decode cX3_cell 22 = .ok (.lreturn, 1) := by decide +kernel
theorem dX3_cell_23 : decode cX3_cell 23 = .ok (.aload_n 0, 1) := by decide +kernel
theorem dX3_cell_24 : decode cX3_cell 24 = .ok (.getfield 30, 3) := by decide +kernel
theorem dX3_cell_27 : decode cX3_cell 27 = .ok (.iload_n 1, 1) := by decide +kernel
theorem dX3_cell_28 : decode cX3_cell 28 = .ok (.aaload, 1) := by decide +kernel
theorem dX3_cell_29 : decode cX3_cell 29 = .ok (.astore 4, 2) := by decide +kernel
theorem dX3_cell_31 : decode cX3_cell 31 = .ok (.aload 4, 2) := by decide +kernel
theorem dX3_cell_33 : decode cX3_cell 33 = .ok (.iload_n 3, 1) := by decide +kernel
theorem dX3_cell_34 : decode cX3_cell 34 = .ok (.invokevirtual 56, 3) := by decide +kernel
theorem dX3_cell_37 : decode cX3_cell 37 = .ok (.istore 5, 2) := by decide +kernel
theorem dX3_cell_39 : decode cX3_cell 39 = .ok (.iload 5, 2) := by decide +kernel
theorem dX3_cell_41 : decode cX3_cell 41 = .ok (.ifCond .ne 15, 3) := by decide +kernel
theorem dX3_cell_44 : decode cX3_cell 44 = .ok (.aload 4, 2) := by decide +kernel
theorem dX3_cell_46 : decode cX3_cell 46 = .ok (.iload_n 2, 1) := by decide +kernel
theorem dX3_cell_47 : decode cX3_cell 47 = .ok (.invokevirtual 226, 3) := by decide +kernel
theorem dX3_cell_50 : decode cX3_cell 50 = .ok (.ifCond .ne 6, 3) := by decide +kernel
theorem dX3_cell_53 : decode cX3_cell 53 = .ok (.iconst 3, 1) := by decide +kernel
theorem dX3_cell_54 : decode cX3_cell 54 = .ok (.istore 5, 2) := by decide +kernel
theorem dX3_cell_56 : decode cX3_cell 56 = .ok (.iload 5, 2) := by decide +kernel
theorem dX3_cell_58 : decode cX3_cell 58 = .ok (.ifCond .eq 13, 3) := by decide +kernel
theorem dX3_cell_61 : decode cX3_cell 61 = .ok (.aload_n 0, 1) := by decide +kernel
theorem dX3_cell_62 : decode cX3_cell 62 = .ok (.iload 5, 2) := by decide +kernel
theorem dX3_cell_64 : decode cX3_cell 64 = .ok (.putfield 45, 3) := by decide +kernel
theorem dX3_cell_67 : decode cX3_cell 67 = .ok (.ldc2_w 207, 3) := by decide +kernel
theorem dX3_cell_70 : decode cX3_cell 70 = .ok (.lreturn, 1) := by decide +kernel
theorem dX3_cell_71 : decode cX3_cell 71 = .ok (.aload 4, 2) := by decide +kernel
theorem dX3_cell_73 : decode cX3_cell 73 = .ok (.getfield 67, 3) := by decide +kernel
theorem dX3_cell_76 : decode cX3_cell 76 = .ok (.iload_n 2, 1) := by decide +kernel
theorem dX3_cell_77 : decode cX3_cell 77 = .ok (.iaload, 1) := by decide +kernel
theorem dX3_cell_78 : decode cX3_cell 78 = .ok (.i2l, 1) := by decide +kernel
theorem dX3_cell_79 : decode cX3_cell 79 = .ok (.lreturn, 1) := by decide +kernel
theorem dX3_copy_0 : decode cX3_copy 0 = .ok (.aload_n 0, 1) := by decide +kernel
theorem dX3_copy_1 : decode cX3_copy 1 = .ok (.iconst 0, 1) := by decide +kernel
theorem dX3_copy_2 : decode cX3_copy 2 = .ok (.putfield 45, 3) := by decide +kernel
theorem dX3_copy_5 : decode cX3_copy 5 = .ok (.iload_n 1, 1) := by decide +kernel
theorem dX3_copy_6 : decode cX3_copy 6 = .ok (.invokestatic 49, 3) := by decide +kernel
theorem dX3_copy_9 : decode cX3_copy 9 = .ok (.ifCond .eq 10, 3) := by decide +kernel
theorem dX3_copy_12 : decode cX3_copy 12 = .ok (.iload_n 3, 1) := by decide +kernel
theorem dX3_copy_13 : decode cX3_copy 13 = .ok (.invokestatic 49, 3) := by decide +kernel
theorem dX3_copy_16 : decode cX3_copy 16 = .ok (.ifCond .ne 5, 3) := by decide +kernel
theorem dX3_copy_19 : decode cX3_copy 19 = .ok (.iconst (-1), 1) := by decide +kernel
theorem dX3_copy_20 : decode cX3_copy 20 = .ok (.ireturn, 1) := by decide +kernel
theorem dX3_copy_21 : decode cX3_copy 21 = .ok (.aload_n 0, 1) := by decide +kernel
theorem dX3_copy_22 : decode cX3_copy 22 = .ok (.getfield 30, 3) := by decide +kernel
theorem dX3_copy_25 : decode cX3_copy 25 = .ok (.iload_n 1, 1) := by decide +kernel
theorem dX3_copy_26 : decode cX3_copy 26 = .ok (.aaload, 1) := by decide +kernel
theorem dX3_copy_27 : decode cX3_copy 27 = .ok (.astore 6, 2) := by decide +kernel
theorem dX3_copy_29 : decode cX3_copy 29 = .ok (.aload_n 0, 1) := by decide +kernel
theorem dX3_copy_30 : decode cX3_copy 30 = .ok (.getfield 30, 3) := by decide +kernel
theorem dX3_copy_33 : decode cX3_copy 33 = .ok (.iload_n 3, 1) := by decide +kernel
theorem dX3_copy_34 : decode cX3_copy 34 = .ok (.aaload, 1) := by decide +kernel
theorem dX3_copy_35 : decode cX3_copy 35 = .ok (.astore 7, 2) := by decide +kernel
theorem dX3_copy_37 : decode cX3_copy 37 = .ok (.aload 6, 2) := by decide +kernel
theorem dX3_copy_39 : decode cX3_copy 39 = .ok (.getfield 222, 3) := by decide +kernel
theorem dX3_copy_42 : decode cX3_copy 42 = .ok (.ifCond .eq 11, 3) := by decide +kernel
theorem dX3_copy_45 : decode cX3_copy 45 = .ok (.aload 7, 2) := by decide +kernel
theorem dX3_copy_47 : decode cX3_copy 47 = .ok (.getfield 222, 3) := by decide +kernel
theorem dX3_copy_50 : decode cX3_copy 50 = .ok (.ifCond .ne 9, 3) := by decide +kernel
theorem dX3_copy_53 : decode cX3_copy 53 = .ok (.aload_n 0, 1) := by decide +kernel
theorem dX3_copy_54 : decode cX3_copy 54 = .ok (.iconst 1, 1) := by decide +kernel
theorem dX3_copy_55 : decode cX3_copy 55 = .ok (.invokevirtual 64, 3) := by decide +kernel
theorem dX3_copy_58 : decode cX3_copy 58 = .ok (.ireturn, 1) := by decide +kernel
theorem dX3_copy_59 : decode cX3_copy 59 = .ok (.aload 6, 2) := by decide +kernel
theorem dX3_copy_61 : decode cX3_copy 61 = .ok (.getfield 229, 3) := by decide +kernel
theorem dX3_copy_64 : decode cX3_copy 64 = .ok (.aload 7, 2) := by decide +kernel
theorem dX3_copy_66 : decode cX3_copy 66 = .ok (.getfield 229, 3) := by decide +kernel
theorem dX3_copy_69 : decode cX3_copy 69 = .ok (.if_icmp .eq 9, 3) := by decide +kernel
theorem dX3_copy_72 : decode cX3_copy 72 = .ok (.aload_n 0, 1) := by decide +kernel
theorem dX3_copy_73 : decode cX3_copy 73 = .ok (.iconst 2, 1) := by decide +kernel
theorem dX3_copy_74 : decode cX3_copy 74 = .ok (.invokevirtual 64, 3) := by decide +kernel
theorem dX3_copy_77 : decode cX3_copy 77 = .ok (.ireturn, 1) := by decide +kernel
theorem dX3_copy_78 : decode cX3_copy 78 = .ok (.aload 6, 2) := by decide +kernel
theorem dX3_copy_80 : decode cX3_copy 80 = .ok (.iload_n 2, 1) := by decide +kernel
theorem dX3_copy_81 : decode cX3_copy 81 = .ok (.iload 5, 2) := by decide +kernel
theorem dX3_copy_83 : decode cX3_copy 83 = .ok (.invokevirtual 60, 3) := by decide +kernel
theorem dX3_copy_86 : decode cX3_copy 86 = .ok (.ifCond .eq 15, 3) := by decide +kernel
theorem dX3_copy_89 : decode cX3_copy 89 = .ok (.aload 7, 2) := by decide +kernel
theorem dX3_copy_91 : decode cX3_copy 91 = .ok (.iload 4, 2) := by decide +kernel
theorem dX3_copy_93 : decode cX3_copy 93 = .ok (.iload 5, 2) := by decide +kernel
theorem dX3_copy_95 : decode cX3_copy 95 = .ok (.invokevirtual 60, 3) := by decide +kernel
theorem dX3_copy_98 : decode cX3_copy 98 = .ok (.ifCond .ne 9, 3) := by decide +kernel
theorem dX3_copy_101 : decode cX3_copy 101 = .ok (.aload_n 0, 1) := by decide +kernel
theorem dX3_copy_102 : decode cX3_copy 102 = .ok (.iconst 3, 1) := by decide +kernel
theorem dX3_copy_103 : decode cX3_copy 103 = .ok (.invokevirtual 64, 3) := by decide +kernel
theorem dX3_copy_106 : decode cX3_copy 106 = .ok (.ireturn, 1) := by decide +kernel
theorem dX3_copy_107 : decode cX3_copy 107 = .ok (.aload 6, 2) := by decide +kernel
theorem dX3_copy_109 : decode cX3_copy 109 = .ok (.getfield 67, 3) := by decide +kernel
theorem dX3_copy_112 : decode cX3_copy 112 = .ok (.iload_n 2, 1) := by decide +kernel
theorem dX3_copy_113 : decode cX3_copy 113 = .ok (.aload 7, 2) := by decide +kernel
theorem dX3_copy_115 : decode cX3_copy 115 = .ok (.getfield 67, 3) := by decide +kernel
theorem dX3_copy_118 : decode cX3_copy 118 = .ok (.iload 4, 2) := by decide +kernel
theorem dX3_copy_120 : decode cX3_copy 120 = .ok (.iload 5, 2) := by decide +kernel
theorem dX3_copy_122 : decode cX3_copy 122 = .ok (.invokestatic 235, 3) := by decide +kernel
theorem dX3_copy_125 : decode cX3_copy 125 = .ok (.iload 5, 2) := by decide +kernel
theorem dX3_copy_127 : decode cX3_copy 127 = .ok (.ireturn, 1) := by decide +kernel
theorem dX3_tell_0 : decode cX3_tell 0 = .ok (.aload_n 0, 1) := by decide +kernel
theorem dX3_tell_1 : decode cX3_tell 1 = .ok (.getfield 14, 3) := by decide +kernel
theorem dX3_tell_4 : decode cX3_tell 4 = .ok (.iload_n 1, 1) := by decide +kernel
theorem dX3_tell_5 : decode cX3_tell 5 = .ok (.invokevirtual 90, 3) := by decide +kernel
theorem dX3_tell_8 : decode cX3_tell 8 = .ok (.ifCond .ne 5, 3) := by decide +kernel
theorem dX3_tell_11 : decode cX3_tell 11 = .ok (.iconst (-1), 1) := by decide +kernel
theorem dX3_tell_12 : decode cX3_tell 12 = .ok (.ireturn, 1) := by decide +kernel
theorem dX3_tell_13 : decode cX3_tell 13 = .ok (.aload_n 0, 1) := by decide +kernel
theorem dX3_tell_14 : decode cX3_tell 14 = .ok (.getfield 14, 3) := by decide +kernel
theorem dX3_tell_17 : decode cX3_tell 17 = .ok (.getfield 93, 3) := by decide +kernel
theorem dX3_tell_20 : decode cX3_tell 20 = .ok (.iload_n 1, 1) := by decide +kernel
theorem dX3_tell_21 : decode cX3_tell 21 = .ok (.iaload, 1) := by decide +kernel
theorem dX3_tell_22 : decode cX3_tell 22 = .ok (.lookupswitch 38 #[(1, 32), (2, 26)], 26) := by decide +kernel
theorem dX3_tell_48 : decode cX3_tell 48 = .ok (.aload_n 0, 1) := by decide +kernel
theorem dX3_tell_49 : decode cX3_tell 49 = .ok (.iload_n 1, 1) := by decide +kernel
theorem dX3_tell_50 : decode cX3_tell 50 = .ok (.invokevirtual 241, 3) := by decide +kernel
theorem dX3_tell_53 : decode cX3_tell 53 = .ok (.ireturn, 1) := by decide +kernel
theorem dX3_tell_54 : decode cX3_tell 54 = .ok (.aload_n 0, 1) := by decide +kernel
theorem dX3_tell_55 : decode cX3_tell 55 = .ok (.iload_n 1, 1) := by decide +kernel
theorem dX3_tell_56 : decode cX3_tell 56 = .ok (.invokevirtual 244, 3) := by decide +kernel
theorem dX3_tell_59 : decode cX3_tell 59 = .ok (.ireturn, 1) := by decide +kernel
theorem dX3_tell_60 : decode cX3_tell 60 = .ok (.aload_n 0, 1) := by decide +kernel
theorem dX3_tell_61 : decode cX3_tell 61 = .ok (.iload_n 1, 1) := by decide +kernel
theorem dX3_tell_62 : decode cX3_tell 62 = .ok (.invokevirtual 247, 3) := by decide +kernel
theorem dX3_tell_65 : decode cX3_tell 65 = .ok (.ireturn, 1) := by decide +kernel
theorem dX3_survey_0 : decode cX3_survey 0 = .ok (.aload_n 0, 1) := by decide +kernel
theorem dX3_survey_1 : decode cX3_survey 1 = .ok (.getfield 14, 3) := by decide +kernel
theorem dX3_survey_4 : decode cX3_survey 4 = .ok (.iload_n 1, 1) := by decide +kernel
theorem dX3_survey_5 : decode cX3_survey 5 = .ok (.invokevirtual 90, 3) := by decide +kernel
theorem dX3_survey_8 : decode cX3_survey 8 = .ok (.ifCond .ne 5, 3) := by decide +kernel
theorem dX3_survey_11 : decode cX3_survey 11 = .ok (.iconst (-1), 1) := by decide +kernel
theorem dX3_survey_12 : decode cX3_survey 12 = .ok (.ireturn, 1) := by decide +kernel
theorem dX3_survey_13 : decode cX3_survey 13 = .ok (.aload_n 0, 1) := by decide +kernel
theorem dX3_survey_14 : decode cX3_survey 14 = .ok (.getfield 14, 3) := by decide +kernel
theorem dX3_survey_17 : decode cX3_survey 17 = .ok (.getfield 93, 3) := by decide +kernel
theorem dX3_survey_20 : decode cX3_survey 20 = .ok (.iload_n 1, 1) := by decide +kernel
theorem dX3_survey_21 : decode cX3_survey 21 = .ok (.iaload, 1) := by decide +kernel
theorem dX3_survey_22 : decode cX3_survey 22 = .ok (.iconst 2, 1) := by decide +kernel
theorem dX3_survey_23 : decode cX3_survey 23 = .ok (.if_icmp .ne 11, 3) := by decide +kernel
theorem dX3_survey_26 : decode cX3_survey 26 = .ok (.aload_n 0, 1) := by decide +kernel
theorem dX3_survey_27 : decode cX3_survey 27 = .ok (.iload_n 1, 1) := by decide +kernel
theorem dX3_survey_28 : decode cX3_survey 28 = .ok (.invokevirtual 250, 3) := by decide +kernel
theorem dX3_survey_31 : decode cX3_survey 31 = .ok (.goto 8, 3) := by decide +kernel
theorem dX3_survey_34 : decode cX3_survey 34 = .ok (.aload_n 0, 1) := by decide +kernel
theorem dX3_survey_35 : decode cX3_survey 35 = .ok (.iload_n 1, 1) := by decide +kernel
theorem dX3_survey_36 : decode cX3_survey 36 = .ok (.invokevirtual 253, 3) := by decide +kernel
theorem dX3_survey_39 : decode cX3_survey 39 = .ok (.ireturn, 1) := by decide +kernel
theorem dX3_as_0 : decode cX3_as 0 = .ok (.aload_n 0, 1) := by decide +kernel
theorem dX3_as_1 : decode cX3_as 1 = .ok (.iconst 0, 1) := by decide +kernel
theorem dX3_as_2 : decode cX3_as 2 = .ok (.putfield 45, 3) := by decide +kernel
theorem dX3_as_5 : decode cX3_as 5 = .ok (.aload_n 0, 1) := by decide +kernel
theorem dX3_as_6 : decode cX3_as 6 = .ok (.getfield 14, 3) := by decide +kernel
theorem dX3_as_9 : decode cX3_as 9 = .ok (.iload_n 1, 1) := by decide +kernel
theorem dX3_as_10 : decode cX3_as 10 = .ok (.invokevirtual 90, 3) := by decide +kernel
theorem dX3_as_13 : decode cX3_as 13 = .ok (.ifCond .ne 5, 3) := by decide +kernel
theorem dX3_as_16 : decode cX3_as 16 = .ok (.iconst (-1), 1) := by decide +kernel
theorem dX3_as_17 : decode cX3_as 17 = .ok (.ireturn, 1) := by decide +kernel
theorem dX3_as_18 : decode cX3_as 18 = .ok (.iload_n 2, 1) := by decide +kernel
theorem dX3_as_19 : decode cX3_as 19 = .ok (.ifCond .lt 8, 3) := by decide +kernel
theorem dX3_as_22 : decode cX3_as 22 = .ok (.iload_n 2, 1) := by decide +kernel
theorem dX3_as_23 : decode cX3_as 23 = .ok (.iconst 2, 1) := by decide +kernel
theorem dX3_as_24 : decode cX3_as 24 = .ok (.if_icmp .le 6, 3) := by decide +kernel
theorem dX3_as_27 : decode cX3_as 27 = .ok (.bipush (-2), 2) := by decide +kernel
theorem dX3_as_29 : decode cX3_as 29 = .ok (.ireturn, 1) := by decide +kernel
theorem dX3_as_30 : decode cX3_as 30 = .ok (.aload_n 0, 1) := by decide +kernel
theorem dX3_as_31 : decode cX3_as 31 = .ok (.getfield 14, 3) := by decide +kernel
theorem dX3_as_34 : decode cX3_as 34 = .ok (.getfield 93, 3) := by decide +kernel
theorem dX3_as_37 : decode cX3_as 37 = .ok (.iload_n 1, 1) := by decide +kernel
theorem dX3_as_38 : decode cX3_as 38 = .ok (.iaload, 1) := by decide +kernel
theorem dX3_as_39 : decode cX3_as 39 = .ok (.iload_n 2, 1) := by decide +kernel
theorem dX3_as_40 : decode cX3_as 40 = .ok (.if_icmp .ge 11, 3) := by decide +kernel
theorem dX3_as_43 : decode cX3_as 43 = .ok (.aload_n 0, 1) := by decide +kernel
theorem dX3_as_44 : decode cX3_as 44 = .ok (.iconst 2, 1) := by decide +kernel
theorem dX3_as_45 : decode cX3_as 45 = .ok (.invokevirtual 64, 3) := by decide +kernel
theorem dX3_as_48 : decode cX3_as 48 = .ok (.goto 4, 3) := by decide +kernel
theorem dX3_as_51 : decode cX3_as 51 = .ok (.iconst 1, 1) := by decide +kernel
theorem dX3_as_52 : decode cX3_as 52 = .ok (.ireturn, 1) := by decide +kernel
theorem dX3_trace_0 : decode cX3_trace 0 = .ok (.aload_n 0, 1) := by decide +kernel
theorem dX3_trace_1 : decode cX3_trace 1 = .ok (.getfield 256, 3) := by decide +kernel
theorem dX3_trace_4 : decode cX3_trace 4 = .ok (.ireturn, 1) := by decide +kernel
theorem dX3_fault_0 : decode cX3_fault 0 = .ok (.aload_n 0, 1) := by decide +kernel
theorem dX3_fault_1 : decode cX3_fault 1 = .ok (.getfield 45, 3) := by decide +kernel
theorem dX3_fault_4 : decode cX3_fault 4 = .ok (.ireturn, 1) := by decide +kernel
theorem dX3_many_0 : decode cX3_many 0 = .ok (.iload_n 1, 1) := by decide +kernel
theorem dX3_many_1 : decode cX3_many 1 = .ok (.tableswitch 60 0 3 #[31, 39, 47, 55], 31) := by decide +kernel
theorem dX3_many_32 : decode cX3_many 32 = .ok (.aload_n 0, 1) := by decide +kernel
theorem dX3_many_33 : decode cX3_many 33 = .ok (.getfield 14, 3) := by decide +kernel
theorem dX3_many_36 : decode cX3_many 36 = .ok (.getfield 87, 3) := by decide +kernel
theorem dX3_many_39 : decode cX3_many 39 = .ok (.ireturn, 1) := by decide +kernel
theorem dX3_many_40 : decode cX3_many 40 = .ok (.aload_n 0, 1) := by decide +kernel
theorem dX3_many_41 : decode cX3_many 41 = .ok (.getfield 14, 3) := by decide +kernel
theorem dX3_many_44 : decode cX3_many 44 = .ok (.getfield 155, 3) := by decide +kernel
theorem dX3_many_47 : decode cX3_many 47 = .ok (.ireturn, 1) := by decide +kernel
theorem dX3_many_48 : decode cX3_many 48 = .ok (.aload_n 0, 1) := by decide +kernel
theorem dX3_many_49 : decode cX3_many 49 = .ok (.getfield 14, 3) := by decide +kernel
theorem dX3_many_52 : decode cX3_many 52 = .ok (.getfield 158, 3) := by decide +kernel
theorem dX3_many_55 : decode cX3_many 55 = .ok (.ireturn, 1) := by decide +kernel
theorem dX3_many_56 : decode cX3_many 56 = .ok (.aload_n 0, 1) := by decide +kernel
theorem dX3_many_57 : decode cX3_many 57 = .ok (.getfield 84, 3) := by decide +kernel
theorem dX3_many_60 : decode cX3_many 60 = .ok (.ireturn, 1) := by decide +kernel
theorem dX3_many_61 : decode cX3_many 61 = .ok (.bipush (-2), 2) := by decide +kernel
theorem dX3_many_63 : decode cX3_many 63 = .ok (.ireturn, 1) := by decide +kernel
theorem dX3_isSheet_0 : decode cX3_isSheet 0 = .ok (.iload_n 0, 1) := by decide +kernel
theorem dX3_isSheet_1 : decode cX3_isSheet 1 = .ok (.ifCond .lt 12, 3) := by decide +kernel
theorem dX3_isSheet_4 : decode cX3_isSheet 4 = .ok (.iload_n 0, 1) := by decide +kernel
theorem dX3_isSheet_5 : decode cX3_isSheet 5 = .ok (.iconst 4, 1) := by decide +kernel
theorem dX3_isSheet_6 : decode cX3_isSheet 6 = .ok (.if_icmp .ge 7, 3) := by decide +kernel
theorem dX3_isSheet_9 : decode cX3_isSheet 9 = .ok (.iconst 1, 1) := by decide +kernel
theorem dX3_isSheet_10 : decode cX3_isSheet 10 = .ok (.goto 4, 3) := by decide +kernel
theorem dX3_isSheet_13 : decode cX3_isSheet 13 = .ok (.iconst 0, 1) := by decide +kernel
theorem dX3_isSheet_14 : decode cX3_isSheet 14 = .ok (.ireturn, 1) := by decide +kernel
theorem dX3_isLane_0 : decode cX3_isLane 0 = .ok (.iload_n 0, 1) := by decide +kernel
theorem dX3_isLane_1 : decode cX3_isLane 1 = .ok (.ifCond .lt 12, 3) := by decide +kernel
theorem dX3_isLane_4 : decode cX3_isLane 4 = .ok (.iload_n 0, 1) := by decide +kernel
theorem dX3_isLane_5 : decode cX3_isLane 5 = .ok (.iconst 2, 1) := by decide +kernel
theorem dX3_isLane_6 : decode cX3_isLane 6 = .ok (.if_icmp .gt 7, 3) := by decide +kernel
theorem dX3_isLane_9 : decode cX3_isLane 9 = .ok (.iconst 1, 1) := by decide +kernel
theorem dX3_isLane_10 : decode cX3_isLane 10 = .ok (.goto 4, 3) := by decide +kernel
theorem dX3_isLane_13 : decode cX3_isLane 13 = .ok (.iconst 0, 1) := by decide +kernel
theorem dX3_isLane_14 : decode cX3_isLane 14 = .ok (.ireturn, 1) := by decide +kernel
theorem dX3_isOrder_0 : decode cX3_isOrder 0 = .ok (.iload_n 0, 1) := by decide +kernel
theorem dX3_isOrder_1 : decode cX3_isOrder 1 = .ok (.ifCond .eq 8, 3) := by decide +kernel
theorem dX3_isOrder_4 : decode cX3_isOrder 4 = .ok (.iload_n 0, 1) := by decide +kernel
theorem dX3_isOrder_5 : decode cX3_isOrder 5 = .ok (.iconst 1, 1) := by decide +kernel
theorem dX3_isOrder_6 : decode cX3_isOrder 6 = .ok (.if_icmp .ne 7, 3) := by decide +kernel
theorem dX3_isOrder_9 : decode cX3_isOrder 9 = .ok (.iconst 1, 1) := by decide +kernel
theorem dX3_isOrder_10 : decode cX3_isOrder 10 = .ok (.goto 4, 3) := by decide +kernel
theorem dX3_isOrder_13 : decode cX3_isOrder 13 = .ok (.iconst 0, 1) := by decide +kernel
theorem dX3_isOrder_14 : decode cX3_isOrder 14 = .ok (.ireturn, 1) := by decide +kernel
theorem dX3_isWidth_0 : decode cX3_isWidth 0 = .ok (.iload_n 0, 1) := by decide +kernel
theorem dX3_isWidth_1 : decode cX3_isWidth 1 = .ok (.iconst 1, 1) := by decide +kernel
theorem dX3_isWidth_2 : decode cX3_isWidth 2 = .ok (.if_icmp .lt 13, 3) := by decide +kernel
theorem dX3_isWidth_5 : decode cX3_isWidth 5 = .ok (.iload_n 0, 1) := by decide +kernel
theorem dX3_isWidth_6 : decode cX3_isWidth 6 = .ok (.bipush 9, 2) := by decide +kernel
theorem dX3_isWidth_8 : decode cX3_isWidth 8 = .ok (.if_icmp .gt 7, 3) := by decide +kernel
theorem dX3_isWidth_11 : decode cX3_isWidth 11 = .ok (.iconst 1, 1) := by decide +kernel
theorem dX3_isWidth_12 : decode cX3_isWidth 12 = .ok (.goto 4, 3) := by decide +kernel
theorem dX3_isWidth_15 : decode cX3_isWidth 15 = .ok (.iconst 0, 1) := by decide +kernel
theorem dX3_isWidth_16 : decode cX3_isWidth 16 = .ok (.ireturn, 1) := by decide +kernel
theorem dX3_isPlot_0 : decode cX3_isPlot 0 = .ok (.iload_n 0, 1) := by decide +kernel
theorem dX3_isPlot_1 : decode cX3_isPlot 1 = .ok (.iconst 1, 1) := by decide +kernel
theorem dX3_isPlot_2 : decode cX3_isPlot 2 = .ok (.if_icmp .lt 13, 3) := by decide +kernel
theorem dX3_isPlot_5 : decode cX3_isPlot 5 = .ok (.iload_n 0, 1) := by decide +kernel
theorem dX3_isPlot_6 : decode cX3_isPlot 6 = .ok (.bipush 9, 2) := by decide +kernel
theorem dX3_isPlot_8 : decode cX3_isPlot 8 = .ok (.if_icmp .gt 7, 3) := by decide +kernel
theorem dX3_isPlot_11 : decode cX3_isPlot 11 = .ok (.iconst 1, 1) := by decide +kernel
theorem dX3_isPlot_12 : decode cX3_isPlot 12 = .ok (.goto 4, 3) := by decide +kernel
theorem dX3_isPlot_15 : decode cX3_isPlot 15 = .ok (.iconst 0, 1) := by decide +kernel
theorem dX3_isPlot_16 : decode cX3_isPlot 16 = .ok (.ireturn, 1) := by decide +kernel
theorem dX3_isTold_0 : decode cX3_isTold 0 = .ok (.iload_n 0, 1) := by decide +kernel
theorem dX3_isTold_1 : decode cX3_isTold 1 = .ok (.ifCond .lt 13, 3) := by decide +kernel
theorem dX3_isTold_4 : decode cX3_isTold 4 = .ok (.iload_n 0, 1) := by decide +kernel
theorem dX3_isTold_5 : decode cX3_isTold 5 = .ok (.bipush 20, 2) := by decide +kernel
theorem dX3_isTold_7 : decode cX3_isTold 7 = .ok (.if_icmp .gt 7, 3) := by decide +kernel
theorem dX3_isTold_10 : decode cX3_isTold 10 = .ok (.iconst 1, 1) := by decide +kernel
theorem dX3_isTold_11 : decode cX3_isTold 11 = .ok (.goto 4, 3) := by decide +kernel
theorem dX3_isTold_14 : decode cX3_isTold 14 = .ok (.iconst 0, 1) := by decide +kernel
theorem dX3_isTold_15 : decode cX3_isTold 15 = .ok (.ireturn, 1) := by decide +kernel
theorem dX3_isAskedOfDay_0 : decode cX3_isAskedOfDay 0 = .ok (.iload_n 0, 1) := by decide +kernel
theorem dX3_isAskedOfDay_1 : decode cX3_isAskedOfDay 1 = .ok (.ifCond .lt 8, 3) := by decide +kernel
theorem dX3_isAskedOfDay_4 : decode cX3_isAskedOfDay 4 = .ok (.iload_n 0, 1) := by decide +kernel
theorem dX3_isAskedOfDay_5 : decode cX3_isAskedOfDay 5 = .ok (.iconst 4, 1) := by decide +kernel
theorem dX3_isAskedOfDay_6 : decode cX3_isAskedOfDay 6 = .ok (.if_icmp .le 15, 3) := by decide +kernel
theorem dX3_isAskedOfDay_9 : decode cX3_isAskedOfDay 9 = .ok (.iload_n 0, 1) := by decide +kernel
theorem dX3_isAskedOfDay_10 : decode cX3_isAskedOfDay 10 = .ok (.bipush 10, 2) := by decide +kernel
theorem dX3_isAskedOfDay_12 : decode cX3_isAskedOfDay 12 = .ok (.if_icmp .lt 13, 3) := by decide +kernel
theorem dX3_isAskedOfDay_15 : decode cX3_isAskedOfDay 15 = .ok (.iload_n 0, 1) := by decide +kernel
theorem dX3_isAskedOfDay_16 : decode cX3_isAskedOfDay 16 = .ok (.bipush 16, 2) := by decide +kernel
theorem dX3_isAskedOfDay_18 : decode cX3_isAskedOfDay 18 = .ok (.if_icmp .ge 7, 3) := by decide +kernel
theorem dX3_isAskedOfDay_21 : decode cX3_isAskedOfDay 21 = .ok (.iconst 1, 1) := by decide +kernel
theorem dX3_isAskedOfDay_22 : decode cX3_isAskedOfDay 22 = .ok (.goto 4, 3) := by decide +kernel
theorem dX3_isAskedOfDay_25 : decode cX3_isAskedOfDay 25 = .ok (.iconst 0, 1) := by decide +kernel
theorem dX3_isAskedOfDay_26 : decode cX3_isAskedOfDay 26 = .ok (.ireturn, 1) := by decide +kernel
theorem dX3_cutTo_0 : decode cX3_cutTo 0 = .ok (.iload_n 0, 1) := by decide +kernel
theorem dX3_cutTo_1 : decode cX3_cutTo 1 = .ok (.lookupswitch 33 #[(0, 27), (1, 30)], 27) := by decide +kernel
theorem dX3_cutTo_28 : decode cX3_cutTo 28 = .ok (.iload_n 1, 1) := by decide +kernel
theorem dX3_cutTo_29 : decode cX3_cutTo 29 = .ok (.i2b, 1) := by decide +kernel
theorem dX3_cutTo_30 : decode cX3_cutTo 30 = .ok (.ireturn, 1) := by decide +kernel
theorem dX3_cutTo_31 : decode cX3_cutTo 31 = .ok (.iload_n 1, 1) := by decide +kernel
theorem dX3_cutTo_32 : decode cX3_cutTo 32 = .ok (.i2s, 1) := by decide +kernel
theorem dX3_cutTo_33 : decode cX3_cutTo 33 = .ok (.ireturn, 1) := by decide +kernel
theorem dX3_cutTo_34 : decode cX3_cutTo 34 = .ok (.iload_n 1, 1) := by decide +kernel
theorem dX3_cutTo_35 : decode cX3_cutTo 35 = .ok (.ireturn, 1) := by decide +kernel
theorem dX3_failed_0 : decode cX3_failed 0 = .ok (.aload_n 0, 1) := by decide +kernel
theorem dX3_failed_1 : decode cX3_failed 1 = .ok (.iload_n 1, 1) := by decide +kernel
theorem dX3_failed_2 : decode cX3_failed 2 = .ok (.putfield 45, 3) := by decide +kernel
theorem dX3_failed_5 : decode cX3_failed 5 = .ok (.bipush (-10), 2) := by decide +kernel
theorem dX3_failed_7 : decode cX3_failed 7 = .ok (.iload_n 1, 1) := by decide +kernel
theorem dX3_failed_8 : decode cX3_failed 8 = .ok (.isub, 1) := by decide +kernel
theorem dX3_failed_9 : decode cX3_failed 9 = .ok (.ireturn, 1) := by decide +kernel
theorem dX3_faultOfRow_0 : decode cX3_faultOfRow 0 = .ok (.aload_n 0, 1) := by decide +kernel
theorem dX3_faultOfRow_1 : decode cX3_faultOfRow 1 = .ok (.iload_n 1, 1) := by decide +kernel
theorem dX3_faultOfRow_2 : decode cX3_faultOfRow 2 = .ok (.invokevirtual 56, 3) := by decide +kernel
theorem dX3_faultOfRow_5 : decode cX3_faultOfRow 5 = .ok (.istore 4, 2) := by decide +kernel
theorem dX3_faultOfRow_7 : decode cX3_faultOfRow 7 = .ok (.iload 4, 2) := by decide +kernel
theorem dX3_faultOfRow_9 : decode cX3_faultOfRow 9 = .ok (.ifCond .eq 6, 3) := by decide +kernel
theorem dX3_faultOfRow_12 : decode cX3_faultOfRow 12 = .ok (.iload 4, 2) := by decide +kernel
theorem dX3_faultOfRow_14 : decode cX3_faultOfRow 14 = .ok (.ireturn, 1) := by decide +kernel
theorem dX3_faultOfRow_15 : decode cX3_faultOfRow 15 = .ok (.aload_n 0, 1) := by decide +kernel
theorem dX3_faultOfRow_16 : decode cX3_faultOfRow 16 = .ok (.iload_n 2, 1) := by decide +kernel
theorem dX3_faultOfRow_17 : decode cX3_faultOfRow 17 = .ok (.iload_n 3, 1) := by decide +kernel
theorem dX3_faultOfRow_18 : decode cX3_faultOfRow 18 = .ok (.invokevirtual 60, 3) := by decide +kernel
theorem dX3_faultOfRow_21 : decode cX3_faultOfRow 21 = .ok (.ifCond .eq 7, 3) := by decide +kernel
theorem dX3_faultOfRow_24 : decode cX3_faultOfRow 24 = .ok (.iconst 0, 1) := by decide +kernel
theorem dX3_faultOfRow_25 : decode cX3_faultOfRow 25 = .ok (.goto 4, 3) := by decide +kernel
theorem dX3_faultOfRow_28 : decode cX3_faultOfRow 28 = .ok (.iconst 3, 1) := by decide +kernel
theorem dX3_faultOfRow_29 : decode cX3_faultOfRow 29 = .ok (.ireturn, 1) := by decide +kernel
theorem dX3_sortsAreKnown_0 : decode cX3_sortsAreKnown 0 = .ok (.iconst 0, 1) := by decide +kernel
theorem dX3_sortsAreKnown_1 : decode cX3_sortsAreKnown 1 = .ok (.istore_n 3, 1) := by decide +kernel
theorem dX3_sortsAreKnown_2 : decode cX3_sortsAreKnown 2 = .ok (.iload_n 3, 1) := by decide +kernel
theorem dX3_sortsAreKnown_3 : decode cX3_sortsAreKnown 3 = .ok (.iload_n 2, 1) := by decide +kernel
theorem dX3_sortsAreKnown_4 : decode cX3_sortsAreKnown 4 = .ok (.if_icmp .ge 31, 3) := by decide +kernel
theorem dX3_sortsAreKnown_7 : decode cX3_sortsAreKnown 7 = .ok (.aload_n 0, 1) := by decide +kernel
theorem dX3_sortsAreKnown_8 : decode cX3_sortsAreKnown 8 = .ok (.iload_n 1, 1) := by decide +kernel
theorem dX3_sortsAreKnown_9 : decode cX3_sortsAreKnown 9 = .ok (.iconst 3, 1) := by decide +kernel
theorem dX3_sortsAreKnown_10 : decode cX3_sortsAreKnown 10 = .ok (.iload_n 3, 1) := by decide +kernel
theorem dX3_sortsAreKnown_11 : decode cX3_sortsAreKnown 11 = .ok (.imul, 1) := by decide +kernel
theorem dX3_sortsAreKnown_12 : decode cX3_sortsAreKnown 12 = .ok (.iadd, 1) := by decide +kernel
theorem dX3_sortsAreKnown_13 : decode cX3_sortsAreKnown 13 = .ok (.iaload, 1) := by decide +kernel
theorem dX3_sortsAreKnown_14 : decode cX3_sortsAreKnown 14 = .ok (.istore 4, 2) := by decide +kernel
theorem dX3_sortsAreKnown_16 : decode cX3_sortsAreKnown 16 = .ok (.iload 4, 2) := by decide +kernel
theorem dX3_sortsAreKnown_18 : decode cX3_sortsAreKnown 18 = .ok (.ifCond .lt 9, 3) := by decide +kernel
theorem dX3_sortsAreKnown_21 : decode cX3_sortsAreKnown 21 = .ok (.iload 4, 2) := by decide +kernel
theorem dX3_sortsAreKnown_23 : decode cX3_sortsAreKnown 23 = .ok (.iconst 2, 1) := by decide +kernel
theorem dX3_sortsAreKnown_24 : decode cX3_sortsAreKnown 24 = .ok (.if_icmp .le 5, 3) := by decide +kernel
theorem dX3_sortsAreKnown_27 : decode cX3_sortsAreKnown 27 = .ok (.iconst 0, 1) := by decide +kernel
theorem dX3_sortsAreKnown_28 : decode cX3_sortsAreKnown 28 = .ok (.ireturn, 1) := by decide +kernel
theorem dX3_sortsAreKnown_29 : decode cX3_sortsAreKnown 29 = .ok (.iinc 3 1, 3) := by decide +kernel
theorem dX3_sortsAreKnown_32 : decode cX3_sortsAreKnown 32 = .ok (.goto (-30), 3) := by decide +kernel
theorem dX3_sortsAreKnown_35 : decode cX3_sortsAreKnown 35 = .ok (.iconst 1, 1) := by decide +kernel
theorem dX3_sortsAreKnown_36 : decode cX3_sortsAreKnown 36 = .ok (.ireturn, 1) := by decide +kernel
theorem dX3_firstWrong_0 : decode cX3_firstWrong 0 = .ok (.aload_n 0, 1) := by decide +kernel
theorem dX3_firstWrong_1 : decode cX3_firstWrong 1 = .ok (.getfield 18, 3) := by decide +kernel
theorem dX3_firstWrong_4 : decode cX3_firstWrong 4 = .ok (.aload_n 0, 1) := by decide +kernel
theorem dX3_firstWrong_5 : decode cX3_firstWrong 5 = .ok (.getfield 14, 3) := by decide +kernel
theorem dX3_firstWrong_8 : decode cX3_firstWrong 8 = .ok (.invokevirtual 80, 3) := by decide +kernel
theorem dX3_firstWrong_11 : decode cX3_firstWrong 11 = .ok (.iconst 0, 1) := by decide +kernel
theorem dX3_firstWrong_12 : decode cX3_firstWrong 12 = .ok (.istore 4, 2) := by decide +kernel
theorem dX3_firstWrong_14 : decode cX3_firstWrong 14 = .ok (.iload 4, 2) := by decide +kernel
theorem dX3_firstWrong_16 : decode cX3_firstWrong 16 = .ok (.iload_n 3, 1) := by decide +kernel
theorem dX3_firstWrong_17 : decode cX3_firstWrong 17 = .ok (.if_icmp .ge 43, 3) := by decide +kernel
theorem dX3_firstWrong_20 : decode cX3_firstWrong 20 = .ok (.iload_n 2, 1) := by decide +kernel
theorem dX3_firstWrong_21 : decode cX3_firstWrong 21 = .ok (.iconst 3, 1) := by decide +kernel
theorem dX3_firstWrong_22 : decode cX3_firstWrong 22 = .ok (.iload 4, 2) := by decide +kernel
theorem dX3_firstWrong_24 : decode cX3_firstWrong 24 = .ok (.imul, 1) := by decide +kernel
theorem dX3_firstWrong_25 : decode cX3_firstWrong 25 = .ok (.iadd, 1) := by decide +kernel
theorem dX3_firstWrong_26 : decode cX3_firstWrong 26 = .ok (.istore 5, 2) := by decide +kernel
theorem dX3_firstWrong_28 : decode cX3_firstWrong 28 = .ok (.aload_n 0, 1) := by decide +kernel
theorem dX3_firstWrong_29 : decode cX3_firstWrong 29 = .ok (.aload_n 1, 1) := by decide +kernel
theorem dX3_firstWrong_30 : decode cX3_firstWrong 30 = .ok (.iload 5, 2) := by decide +kernel
theorem dX3_firstWrong_32 : decode cX3_firstWrong 32 = .ok (.iaload, 1) := by decide +kernel
theorem dX3_firstWrong_33 : decode cX3_firstWrong 33 = .ok (.aload_n 1, 1) := by decide +kernel
theorem dX3_firstWrong_34 : decode cX3_firstWrong 34 = .ok (.iload 5, 2) := by decide +kernel
theorem dX3_firstWrong_36 : decode cX3_firstWrong 36 = .ok (.iconst 1, 1) := by decide +kernel
theorem dX3_firstWrong_37 : decode cX3_firstWrong 37 = .ok (.iadd, 1) := by decide +kernel
theorem dX3_firstWrong_38 : decode cX3_firstWrong 38 = .ok (.iaload, 1) := by decide +kernel
theorem dX3_firstWrong_39 : decode cX3_firstWrong 39 = .ok (.aload_n 1, 1) := by decide +kernel
theorem dX3_firstWrong_40 : decode cX3_firstWrong 40 = .ok (.iload 5, 2) := by decide +kernel
theorem dX3_firstWrong_42 : decode cX3_firstWrong 42 = .ok (.iconst 2, 1) := by decide +kernel
theorem dX3_firstWrong_43 : decode cX3_firstWrong 43 = .ok (.iadd, 1) := by decide +kernel
theorem dX3_firstWrong_44 : decode cX3_firstWrong 44 = .ok (.iaload, 1) := by decide +kernel
theorem dX3_firstWrong_45 : decode cX3_firstWrong 45 = .ok (.invokevirtual 259, 3) := by decide +kernel
theorem dX3_firstWrong_48 : decode cX3_firstWrong 48 = .ok (.ifCond .ne 6, 3) := by decide +kernel
theorem dX3_firstWrong_51 : decode cX3_firstWrong 51 = .ok (.iload 4, 2) := by decide +kernel
theorem dX3_firstWrong_53 : decode cX3_firstWrong 53 = .ok (.ireturn, 1) := by decide +kernel
theorem dX3_firstWrong_54 : decode cX3_firstWrong 54 = .ok (.iinc 4 1, 3) := by decide +kernel
theorem dX3_firstWrong_57 : decode cX3_firstWrong 57 = .ok (.goto (-43), 3) := by decide +kernel
theorem dX3_firstWrong_60 : decode cX3_firstWrong 60 = .ok (.aload_n 0, 1) := by decide +kernel
theorem dX3_firstWrong_61 : decode cX3_firstWrong 61 = .ok (.getfield 18, 3) := by decide +kernel
theorem dX3_firstWrong_64 : decode cX3_firstWrong 64 = .ok (.invokevirtual 133, 3) := by decide +kernel
theorem dX3_firstWrong_67 : decode cX3_firstWrong 67 = .ok (.bipush (-9), 2) := by decide +kernel
theorem dX3_firstWrong_69 : decode cX3_firstWrong 69 = .ok (.ireturn, 1) := by decide +kernel
theorem dX3_actOnTrial_0 : decode cX3_actOnTrial 0 = .ok (.iload_n 1, 1) := by decide +kernel
theorem dX3_actOnTrial_1 : decode cX3_actOnTrial 1 = .ok (.iconst 2, 1) := by decide +kernel
theorem dX3_actOnTrial_2 : decode cX3_actOnTrial 2 = .ok (.if_icmp .ne 34, 3) := by decide +kernel
theorem dX3_actOnTrial_5 : decode cX3_actOnTrial 5 = .ok (.iload_n 2, 1) := by decide +kernel
theorem dX3_actOnTrial_6 : decode cX3_actOnTrial 6 = .ok (.invokestatic 139, 3) := by decide +kernel
theorem dX3_actOnTrial_9 : decode cX3_actOnTrial 9 = .ok (.ifCond .eq 14, 3) := by decide +kernel
theorem dX3_actOnTrial_12 : decode cX3_actOnTrial 12 = .ok (.aload_n 0, 1) := by decide +kernel
theorem dX3_actOnTrial_13 : decode cX3_actOnTrial 13 = .ok (.getfield 18, 3) := by decide +kernel
theorem dX3_actOnTrial_16 : decode cX3_actOnTrial 16 = .ok (.iload_n 3, 1) := by decide +kernel
theorem dX3_actOnTrial_17 : decode cX3_actOnTrial 17 = .ok (.invokevirtual 142, 3) := by decide +kernel
theorem dX3_actOnTrial_20 : decode cX3_actOnTrial 20 = .ok (.ifCond .ne 5, 3) := by decide +kernel
theorem dX3_actOnTrial_23 : decode cX3_actOnTrial 23 = .ok (.iconst 0, 1) := by decide +kernel
theorem dX3_actOnTrial_24 : decode cX3_actOnTrial 24 = .ok (.ireturn, 1) := by decide +kernel
theorem dX3_actOnTrial_25 : decode cX3_actOnTrial 25 = .ok (.aload_n 0, 1) := by decide +kernel
theorem dX3_actOnTrial_26 : decode cX3_actOnTrial 26 = .ok (.getfield 18, 3) := by decide +kernel
theorem dX3_actOnTrial_29 : decode cX3_actOnTrial 29 = .ok (.iload_n 2, 1) := by decide +kernel
theorem dX3_actOnTrial_30 : decode cX3_actOnTrial 30 = .ok (.iload_n 3, 1) := by decide +kernel
theorem dX3_actOnTrial_31 : decode cX3_actOnTrial 31 = .ok (.invokevirtual 145, 3) := by decide +kernel
theorem dX3_actOnTrial_34 : decode cX3_actOnTrial 34 = .ok (.iconst 1, 1) := by decide +kernel
theorem dX3_actOnTrial_35 : decode cX3_actOnTrial 35 = .ok (.ireturn, 1) := by decide +kernel
theorem dX3_actOnTrial_36 : decode cX3_actOnTrial 36 = .ok (.aload_n 0, 1) := by decide +kernel
theorem dX3_actOnTrial_37 : decode cX3_actOnTrial 37 = .ok (.getfield 18, 3) := by decide +kernel
theorem dX3_actOnTrial_40 : decode cX3_actOnTrial 40 = .ok (.iload_n 2, 1) := by decide +kernel
theorem dX3_actOnTrial_41 : decode cX3_actOnTrial 41 = .ok (.invokevirtual 90, 3) := by decide +kernel
theorem dX3_actOnTrial_44 : decode cX3_actOnTrial 44 = .ok (.ifCond .ne 5, 3) := by decide +kernel
theorem dX3_actOnTrial_47 : decode cX3_actOnTrial 47 = .ok (.iconst 0, 1) := by decide +kernel
theorem dX3_actOnTrial_48 : decode cX3_actOnTrial 48 = .ok (.ireturn, 1) := by decide +kernel
theorem dX3_actOnTrial_49 : decode cX3_actOnTrial 49 = .ok (.iload_n 1, 1) := by decide +kernel
theorem dX3_actOnTrial_50 : decode cX3_actOnTrial 50 = .ok (.ifCond .ne 24, 3) := by decide +kernel
theorem dX3_actOnTrial_53 : decode cX3_actOnTrial 53 = .ok (.iload_n 3, 1) := by decide +kernel
theorem dX3_actOnTrial_54 : decode cX3_actOnTrial 54 = .ok (.invokestatic 130, 3) := by decide +kernel
theorem dX3_actOnTrial_57 : decode cX3_actOnTrial 57 = .ok (.ifCond .ne 5, 3) := by decide +kernel
theorem dX3_actOnTrial_60 : decode cX3_actOnTrial 60 = .ok (.iconst 0, 1) := by decide +kernel
theorem dX3_actOnTrial_61 : decode cX3_actOnTrial 61 = .ok (.ireturn, 1) := by decide +kernel
theorem dX3_actOnTrial_62 : decode cX3_actOnTrial 62 = .ok (.aload_n 0, 1) := by decide +kernel
theorem dX3_actOnTrial_63 : decode cX3_actOnTrial 63 = .ok (.getfield 18, 3) := by decide +kernel
theorem dX3_actOnTrial_66 : decode cX3_actOnTrial 66 = .ok (.getfield 99, 3) := by decide +kernel
theorem dX3_actOnTrial_69 : decode cX3_actOnTrial 69 = .ok (.iload_n 2, 1) := by decide +kernel
theorem dX3_actOnTrial_70 : decode cX3_actOnTrial 70 = .ok (.iload_n 3, 1) := by decide +kernel
theorem dX3_actOnTrial_71 : decode cX3_actOnTrial 71 = .ok (.iastore, 1) := by decide +kernel
theorem dX3_actOnTrial_72 : decode cX3_actOnTrial 72 = .ok (.iconst 1, 1) := by decide +kernel
theorem dX3_actOnTrial_73 : decode cX3_actOnTrial 73 = .ok (.ireturn, 1) := by decide +kernel
theorem dX3_actOnTrial_74 : decode cX3_actOnTrial 74 = .ok (.iload_n 3, 1) := by decide +kernel
theorem dX3_actOnTrial_75 : decode cX3_actOnTrial 75 = .ok (.invokestatic 136, 3) := by decide +kernel
theorem dX3_actOnTrial_78 : decode cX3_actOnTrial 78 = .ok (.ifCond .ne 5, 3) := by decide +kernel
theorem dX3_actOnTrial_81 : decode cX3_actOnTrial 81 = .ok (.iconst 0, 1) := by decide +kernel
theorem dX3_actOnTrial_82 : decode cX3_actOnTrial 82 = .ok (.ireturn, 1) := by decide +kernel
theorem dX3_actOnTrial_83 : decode cX3_actOnTrial 83 = .ok (.aload_n 0, 1) := by decide +kernel
theorem dX3_actOnTrial_84 : decode cX3_actOnTrial 84 = .ok (.getfield 18, 3) := by decide +kernel
theorem dX3_actOnTrial_87 : decode cX3_actOnTrial 87 = .ok (.getfield 96, 3) := by decide +kernel
theorem dX3_actOnTrial_90 : decode cX3_actOnTrial 90 = .ok (.iload_n 2, 1) := by decide +kernel
theorem dX3_actOnTrial_91 : decode cX3_actOnTrial 91 = .ok (.iload_n 3, 1) := by decide +kernel
theorem dX3_actOnTrial_92 : decode cX3_actOnTrial 92 = .ok (.iastore, 1) := by decide +kernel
theorem dX3_actOnTrial_93 : decode cX3_actOnTrial 93 = .ok (.iconst 1, 1) := by decide +kernel
theorem dX3_actOnTrial_94 : decode cX3_actOnTrial 94 = .ok (.ireturn, 1) := by decide +kernel
theorem dX3_ofTrial_0 : decode cX3_ofTrial 0 = .ok (.iload_n 1, 1) := by decide +kernel
theorem dX3_ofTrial_1 : decode cX3_ofTrial 1 = .ok (.tableswitch 67 0 4 #[35, 67, 43, 51, 59], 35) := by decide +kernel
theorem dX3_ofTrial_36 : decode cX3_ofTrial 36 = .ok (.aload_n 0, 1) := by decide +kernel
theorem dX3_ofTrial_37 : decode cX3_ofTrial 37 = .ok (.getfield 18, 3) := by decide +kernel
theorem dX3_ofTrial_40 : decode cX3_ofTrial 40 = .ok (.getfield 155, 3) := by decide +kernel
theorem dX3_ofTrial_43 : decode cX3_ofTrial 43 = .ok (.ireturn, 1) := by decide +kernel
theorem dX3_ofTrial_44 : decode cX3_ofTrial 44 = .ok (.aload_n 0, 1) := by decide +kernel
theorem dX3_ofTrial_45 : decode cX3_ofTrial 45 = .ok (.getfield 18, 3) := by decide +kernel
theorem dX3_ofTrial_48 : decode cX3_ofTrial 48 = .ok (.getfield 158, 3) := by decide +kernel
theorem dX3_ofTrial_51 : decode cX3_ofTrial 51 = .ok (.ireturn, 1) := by decide +kernel
theorem dX3_ofTrial_52 : decode cX3_ofTrial 52 = .ok (.aload_n 0, 1) := by decide +kernel
theorem dX3_ofTrial_53 : decode cX3_ofTrial 53 = .ok (.getfield 18, 3) := by decide +kernel
theorem dX3_ofTrial_56 : decode cX3_ofTrial 56 = .ok (.invokevirtual 161, 3) := by decide +kernel
theorem dX3_ofTrial_59 : decode cX3_ofTrial 59 = .ok (.ireturn, 1) := by decide +kernel
theorem dX3_ofTrial_60 : decode cX3_ofTrial 60 = .ok (.aload_n 0, 1) := by decide +kernel
theorem dX3_ofTrial_61 : decode cX3_ofTrial 61 = .ok (.getfield 18, 3) := by decide +kernel
theorem dX3_ofTrial_64 : decode cX3_ofTrial 64 = .ok (.invokevirtual 165, 3) := by decide +kernel
theorem dX3_ofTrial_67 : decode cX3_ofTrial 67 = .ok (.ireturn, 1) := by decide +kernel
theorem dX3_ofTrial_68 : decode cX3_ofTrial 68 = .ok (.aload_n 0, 1) := by decide +kernel
theorem dX3_ofTrial_69 : decode cX3_ofTrial 69 = .ok (.getfield 18, 3) := by decide +kernel
theorem dX3_ofTrial_72 : decode cX3_ofTrial 72 = .ok (.iload_n 1, 1) := by decide +kernel
theorem dX3_ofTrial_73 : decode cX3_ofTrial 73 = .ok (.bipush 10, 2) := by decide +kernel
theorem dX3_ofTrial_75 : decode cX3_ofTrial 75 = .ok (.isub, 1) := by decide +kernel
theorem dX3_ofTrial_76 : decode cX3_ofTrial 76 = .ok (.invokevirtual 90, 3) := by decide +kernel
theorem dX3_ofTrial_79 : decode cX3_ofTrial 79 = .ok (.ifCond .eq 18, 3) := by decide +kernel
theorem dX3_ofTrial_82 : decode cX3_ofTrial 82 = .ok (.aload_n 0, 1) := by decide +kernel
theorem dX3_ofTrial_83 : decode cX3_ofTrial 83 = .ok (.getfield 18, 3) := by decide +kernel
theorem dX3_ofTrial_86 : decode cX3_ofTrial 86 = .ok (.getfield 105, 3) := by decide +kernel
theorem dX3_ofTrial_89 : decode cX3_ofTrial 89 = .ok (.iload_n 1, 1) := by decide +kernel
theorem dX3_ofTrial_90 : decode cX3_ofTrial 90 = .ok (.bipush 10, 2) := by decide +kernel
theorem dX3_ofTrial_92 : decode cX3_ofTrial 92 = .ok (.isub, 1) := by decide +kernel
theorem dX3_ofTrial_93 : decode cX3_ofTrial 93 = .ok (.iaload, 1) := by decide +kernel
theorem dX3_ofTrial_94 : decode cX3_ofTrial 94 = .ok (.goto 5, 3) := by decide +kernel
theorem dX3_ofTrial_97 : decode cX3_ofTrial 97 = .ok (.bipush (-9), 2) := by decide +kernel
theorem dX3_ofTrial_99 : decode cX3_ofTrial 99 = .ok (.ireturn, 1) := by decide +kernel
theorem dX3_findLeast_0 : decode cX3_findLeast 0 = .ok (.iconst 0, 1) := by decide +kernel
theorem dX3_findLeast_1 : decode cX3_findLeast 1 = .ok (.istore_n 1, 1) := by decide +kernel
theorem dX3_findLeast_2 : decode cX3_findLeast 2 = .ok (.getstatic 209, 3) := by decide +kernel
theorem dX3_findLeast_5 : decode cX3_findLeast 5 = .ok (.aload_n 0, 1) := by decide +kernel
theorem dX3_findLeast_6 : decode cX3_findLeast 6 = .ok (.getfield 14, 3) := by decide +kernel
theorem dX3_findLeast_9 : decode cX3_findLeast 9 = .ok (.getfield 87, 3) := by decide +kernel
theorem dX3_findLeast_12 : decode cX3_findLeast 12 = .ok (.iaload, 1) := by decide +kernel
theorem dX3_findLeast_13 : decode cX3_findLeast 13 = .ok (.istore_n 2, 1) := by decide +kernel
theorem dX3_findLeast_14 : decode cX3_findLeast 14 = .ok (.aload_n 0, 1) := by decide +kernel
theorem dX3_findLeast_15 : decode cX3_findLeast 15 = .ok (.getfield 18, 3) := by decide +kernel
theorem dX3_findLeast_18 : decode cX3_findLeast 18 = .ok (.aload_n 0, 1) := by decide +kernel
theorem dX3_findLeast_19 : decode cX3_findLeast 19 = .ok (.getfield 14, 3) := by decide +kernel
theorem dX3_findLeast_22 : decode cX3_findLeast 22 = .ok (.invokevirtual 80, 3) := by decide +kernel
theorem dX3_findLeast_25 : decode cX3_findLeast 25 = .ok (.aload_n 0, 1) := by decide +kernel
theorem dX3_findLeast_26 : decode cX3_findLeast 26 = .ok (.getfield 18, 3) := by decide +kernel
theorem dX3_findLeast_29 : decode cX3_findLeast 29 = .ok (.invokevirtual 263, 3) := by decide +kernel
theorem dX3_findLeast_32 : decode cX3_findLeast 32 = .ok (.iconst 0, 1) := by decide +kernel
theorem dX3_findLeast_33 : decode cX3_findLeast 33 = .ok (.istore_n 3, 1) := by decide +kernel
theorem dX3_findLeast_34 : decode cX3_findLeast 34 = .ok (.iload_n 3, 1) := by decide +kernel
theorem dX3_findLeast_35 : decode cX3_findLeast 35 = .ok (.iload_n 2, 1) := by decide +kernel
theorem dX3_findLeast_36 : decode cX3_findLeast 36 = .ok (.if_icmp .ge 78, 3) := by decide +kernel
theorem dX3_findLeast_39 : decode cX3_findLeast 39 = .ok (.aload_n 0, 1) := by decide +kernel
theorem dX3_findLeast_40 : decode cX3_findLeast 40 = .ok (.getfield 18, 3) := by decide +kernel
theorem dX3_findLeast_43 : decode cX3_findLeast 43 = .ok (.invokevirtual 133, 3) := by decide +kernel
theorem dX3_findLeast_46 : decode cX3_findLeast 46 = .ok (.aload_n 0, 1) := by decide +kernel
theorem dX3_findLeast_47 : decode cX3_findLeast 47 = .ok (.getfield 18, 3) := by decide +kernel
theorem dX3_findLeast_50 : decode cX3_findLeast 50 = .ok (.getfield 155, 3) := by decide +kernel
theorem dX3_findLeast_53 : decode cX3_findLeast 53 = .ok (.aload_n 0, 1) := by decide +kernel
theorem dX3_findLeast_54 : decode cX3_findLeast 54 = .ok (.getfield 18, 3) := by decide +kernel
theorem dX3_findLeast_57 : decode cX3_findLeast 57 = .ok (.getfield 158, 3) := by decide +kernel
theorem dX3_findLeast_60 : decode cX3_findLeast 60 = .ok (.imul, 1) := by decide +kernel
theorem dX3_findLeast_61 : decode cX3_findLeast 61 = .ok (.istore 4, 2) := by decide +kernel
theorem dX3_findLeast_63 : decode cX3_findLeast 63 = .ok (.iload_n 3, 1) := by decide +kernel
theorem dX3_findLeast_64 : decode cX3_findLeast 64 = .ok (.ifCond .eq 9, 3) := by decide +kernel
theorem dX3_findLeast_67 : decode cX3_findLeast 67 = .ok (.iload 4, 2) := by decide +kernel
theorem dX3_findLeast_69 : decode cX3_findLeast 69 = .ok (.iload_n 1, 1) := by decide +kernel
theorem dX3_findLeast_70 : decode cX3_findLeast 70 = .ok (.if_icmp .ge 31, 3) := by decide +kernel
theorem dX3_findLeast_73 : decode cX3_findLeast 73 = .ok (.iload 4, 2) := by decide +kernel
theorem dX3_findLeast_75 : decode cX3_findLeast 75 = .ok (.istore_n 1, 1) := by decide +kernel
theorem dX3_findLeast_76 : decode cX3_findLeast 76 = .ok (.aload_n 0, 1) := by decide +kernel
theorem dX3_findLeast_77 : decode cX3_findLeast 77 = .ok (.getfield 18, 3) := by decide +kernel
theorem dX3_findLeast_80 : decode cX3_findLeast 80 = .ok (.getfield 149, 3) := by decide +kernel
theorem dX3_findLeast_83 : decode cX3_findLeast 83 = .ok (.iconst 1, 1) := by decide +kernel
theorem dX3_findLeast_84 : decode cX3_findLeast 84 = .ok (.aaload, 1) := by decide +kernel
theorem dX3_findLeast_85 : decode cX3_findLeast 85 = .ok (.iconst 0, 1) := by decide +kernel
theorem dX3_findLeast_86 : decode cX3_findLeast 86 = .ok (.aload_n 0, 1) := by decide +kernel
theorem dX3_findLeast_87 : decode cX3_findLeast 87 = .ok (.getfield 34, 3) := by decide +kernel
theorem dX3_findLeast_90 : decode cX3_findLeast 90 = .ok (.iconst 0, 1) := by decide +kernel
theorem dX3_findLeast_91 : decode cX3_findLeast 91 = .ok (.aload_n 0, 1) := by decide +kernel
theorem dX3_findLeast_92 : decode cX3_findLeast 92 = .ok (.getfield 18, 3) := by decide +kernel
theorem dX3_findLeast_95 : decode cX3_findLeast 95 = .ok (.getfield 87, 3) := by decide +kernel
theorem dX3_findLeast_98 : decode cX3_findLeast 98 = .ok (.invokestatic 235, 3) := by decide +kernel
theorem dX3_findLeast_101 : decode cX3_findLeast 101 = .ok (.aload_n 0, 1) := by decide +kernel
theorem dX3_findLeast_102 : decode cX3_findLeast 102 = .ok (.getfield 18, 3) := by decide +kernel
theorem dX3_findLeast_105 : decode cX3_findLeast 105 = .ok (.invokevirtual 266, 3) := by decide +kernel
theorem dX3_findLeast_108 : decode cX3_findLeast 108 = .ok (.iinc 3 1, 3) := by decide +kernel
theorem dX3_findLeast_111 : decode cX3_findLeast 111 = .ok (.goto (-77), 3) := by decide +kernel
theorem dX3_findLeast_114 : decode cX3_findLeast 114 = .ok (.iload_n 1, 1) := by decide +kernel
theorem dX3_findLeast_115 : decode cX3_findLeast 115 = .ok (.ireturn, 1) := by decide +kernel
theorem dX3_ordersWithin_0 : decode cX3_ordersWithin 0 = .ok (.iconst 0, 1) := by decide +kernel
theorem dX3_ordersWithin_1 : decode cX3_ordersWithin 1 = .ok (.istore_n 2, 1) := by decide +kernel
theorem dX3_ordersWithin_2 : decode cX3_ordersWithin 2 = .ok (.getstatic 209, 3) := by decide +kernel
theorem dX3_ordersWithin_5 : decode cX3_ordersWithin 5 = .ok (.aload_n 0, 1) := by decide +kernel
theorem dX3_ordersWithin_6 : decode cX3_ordersWithin 6 = .ok (.getfield 14, 3) := by decide +kernel
theorem dX3_ordersWithin_9 : decode cX3_ordersWithin 9 = .ok (.getfield 87, 3) := by decide +kernel
theorem dX3_ordersWithin_12 : decode cX3_ordersWithin 12 = .ok (.iaload, 1) := by decide +kernel
theorem dX3_ordersWithin_13 : decode cX3_ordersWithin 13 = .ok (.istore_n 3, 1) := by decide +kernel
theorem dX3_ordersWithin_14 : decode cX3_ordersWithin 14 = .ok (.aload_n 0, 1) := by decide +kernel
theorem dX3_ordersWithin_15 : decode cX3_ordersWithin 15 = .ok (.getfield 18, 3) := by decide +kernel
theorem dX3_ordersWithin_18 : decode cX3_ordersWithin 18 = .ok (.aload_n 0, 1) := by decide +kernel
theorem dX3_ordersWithin_19 : decode cX3_ordersWithin 19 = .ok (.getfield 14, 3) := by decide +kernel
theorem dX3_ordersWithin_22 : decode cX3_ordersWithin 22 = .ok (.invokevirtual 80, 3) := by decide +kernel
theorem dX3_ordersWithin_25 : decode cX3_ordersWithin 25 = .ok (.aload_n 0, 1) := by decide +kernel
theorem dX3_ordersWithin_26 : decode cX3_ordersWithin 26 = .ok (.getfield 18, 3) := by decide +kernel
theorem dX3_ordersWithin_29 : decode cX3_ordersWithin 29 = .ok (.invokevirtual 263, 3) := by decide +kernel
theorem dX3_ordersWithin_32 : decode cX3_ordersWithin 32 = .ok (.iconst 0, 1) := by decide +kernel
theorem dX3_ordersWithin_33 : decode cX3_ordersWithin 33 = .ok (.istore 4, 2) := by decide +kernel
theorem dX3_ordersWithin_35 : decode cX3_ordersWithin 35 = .ok (.iload 4, 2) := by decide +kernel
theorem dX3_ordersWithin_37 : decode cX3_ordersWithin 37 = .ok (.iload_n 3, 1) := by decide +kernel
theorem dX3_ordersWithin_38 : decode cX3_ordersWithin 38 = .ok (.if_icmp .ge 45, 3) := by decide +kernel
theorem dX3_ordersWithin_41 : decode cX3_ordersWithin 41 = .ok (.aload_n 0, 1) := by decide +kernel
theorem dX3_ordersWithin_42 : decode cX3_ordersWithin 42 = .ok (.getfield 18, 3) := by decide +kernel
theorem dX3_ordersWithin_45 : decode cX3_ordersWithin 45 = .ok (.invokevirtual 133, 3) := by decide +kernel
theorem dX3_ordersWithin_48 : decode cX3_ordersWithin 48 = .ok (.aload_n 0, 1) := by decide +kernel
theorem dX3_ordersWithin_49 : decode cX3_ordersWithin 49 = .ok (.getfield 18, 3) := by decide +kernel
theorem dX3_ordersWithin_52 : decode cX3_ordersWithin 52 = .ok (.getfield 155, 3) := by decide +kernel
theorem dX3_ordersWithin_55 : decode cX3_ordersWithin 55 = .ok (.aload_n 0, 1) := by decide +kernel
theorem dX3_ordersWithin_56 : decode cX3_ordersWithin 56 = .ok (.getfield 18, 3) := by decide +kernel
theorem dX3_ordersWithin_59 : decode cX3_ordersWithin 59 = .ok (.getfield 158, 3) := by decide +kernel
theorem dX3_ordersWithin_62 : decode cX3_ordersWithin 62 = .ok (.imul, 1) := by decide +kernel
theorem dX3_ordersWithin_63 : decode cX3_ordersWithin 63 = .ok (.iload_n 1, 1) := by decide +kernel
theorem dX3_ordersWithin_64 : decode cX3_ordersWithin 64 = .ok (.if_icmp .gt 6, 3) := by decide +kernel
theorem dX3_ordersWithin_67 : decode cX3_ordersWithin 67 = .ok (.iinc 2 1, 3) := by decide +kernel
theorem dX3_ordersWithin_70 : decode cX3_ordersWithin 70 = .ok (.aload_n 0, 1) := by decide +kernel
theorem dX3_ordersWithin_71 : decode cX3_ordersWithin 71 = .ok (.getfield 18, 3) := by decide +kernel
theorem dX3_ordersWithin_74 : decode cX3_ordersWithin 74 = .ok (.invokevirtual 266, 3) := by decide +kernel
theorem dX3_ordersWithin_77 : decode cX3_ordersWithin 77 = .ok (.iinc 4 1, 3) := by decide +kernel
theorem dX3_ordersWithin_80 : decode cX3_ordersWithin 80 = .ok (.goto (-45), 3) := by decide +kernel
theorem dX3_ordersWithin_83 : decode cX3_ordersWithin 83 = .ok (.iload_n 2, 1) := by decide +kernel
theorem dX3_ordersWithin_84 : decode cX3_ordersWithin 84 = .ok (.ireturn, 1) := by decide +kernel
theorem dX3_commonDivisor_0 : decode cX3_commonDivisor 0 = .ok (.iload_n 1, 1) := by decide +kernel
theorem dX3_commonDivisor_1 : decode cX3_commonDivisor 1 = .ok (.istore_n 2, 1) := by decide +kernel
theorem dX3_commonDivisor_2 : decode cX3_commonDivisor 2 = .ok (.iload_n 0, 1) := by decide +kernel
theorem dX3_commonDivisor_3 : decode cX3_commonDivisor 3 = .ok (.istore_n 3, 1) := by decide +kernel
theorem dX3_commonDivisor_4 : decode cX3_commonDivisor 4 = .ok (.iconst 0, 1) := by decide +kernel
theorem dX3_commonDivisor_5 : decode cX3_commonDivisor 5 = .ok (.istore 4, 2) := by decide +kernel
theorem dX3_commonDivisor_7 : decode cX3_commonDivisor 7 = .ok (.iload 4, 2) := by decide +kernel
theorem dX3_commonDivisor_9 : decode cX3_commonDivisor 9 = .ok (.bipush 64, 2) := by decide +kernel
theorem dX3_commonDivisor_11 : decode cX3_commonDivisor 11 = .ok (.if_icmp .ge 23, 3) := by decide +kernel
theorem dX3_commonDivisor_14 : decode cX3_commonDivisor 14 = .ok (.iload_n 3, 1) := by decide +kernel
theorem dX3_commonDivisor_15 : decode cX3_commonDivisor 15 = .ok (.ifCond .eq 19, 3) := by decide +kernel
theorem dX3_commonDivisor_18 : decode cX3_commonDivisor 18 = .ok (.iload_n 2, 1) := by decide +kernel
theorem dX3_commonDivisor_19 : decode cX3_commonDivisor 19 = .ok (.iload_n 3, 1) := by decide +kernel
theorem dX3_commonDivisor_20 : decode cX3_commonDivisor 20 = .ok (.irem, 1) := by decide +kernel
theorem dX3_commonDivisor_21 : decode cX3_commonDivisor 21 = .ok (.istore 5, 2) := by decide +kernel
theorem dX3_commonDivisor_23 : decode cX3_commonDivisor 23 = .ok (.iload_n 3, 1) := by decide +kernel
theorem dX3_commonDivisor_24 : decode cX3_commonDivisor 24 = .ok (.istore_n 2, 1) := by decide +kernel
theorem dX3_commonDivisor_25 : decode cX3_commonDivisor 25 = .ok (.iload 5, 2) := by decide +kernel
theorem dX3_commonDivisor_27 : decode cX3_commonDivisor 27 = .ok (.istore_n 3, 1) := by decide +kernel
theorem dX3_commonDivisor_28 : decode cX3_commonDivisor 28 = .ok (.iinc 4 1, 3) := by decide +kernel
theorem dX3_commonDivisor_31 : decode cX3_commonDivisor 31 = .ok (.goto (-24), 3) := by decide +kernel
theorem dX3_commonDivisor_34 : decode cX3_commonDivisor 34 = .ok (.iload_n 2, 1) := by decide +kernel
theorem dX3_commonDivisor_35 : decode cX3_commonDivisor 35 = .ok (.ireturn, 1) := by decide +kernel
theorem dX3_allAreAreas_0 : decode cX3_allAreAreas 0 = .ok (.iconst 0, 1) := by decide +kernel
theorem dX3_allAreAreas_1 : decode cX3_allAreAreas 1 = .ok (.istore 4, 2) := by decide +kernel
theorem dX3_allAreAreas_3 : decode cX3_allAreAreas 3 = .ok (.iload 4, 2) := by decide +kernel
theorem dX3_allAreAreas_5 : decode cX3_allAreAreas 5 = .ok (.iload_n 3, 1) := by decide +kernel
theorem dX3_allAreAreas_6 : decode cX3_allAreAreas 6 = .ok (.if_icmp .ge 27, 3) := by decide +kernel
theorem dX3_allAreAreas_9 : decode cX3_allAreAreas 9 = .ok (.aload_n 0, 1) := by decide +kernel
theorem dX3_allAreAreas_10 : decode cX3_allAreAreas 10 = .ok (.getfield 14, 3) := by decide +kernel
theorem dX3_allAreAreas_13 : decode cX3_allAreAreas 13 = .ok (.aload_n 1, 1) := by decide +kernel
theorem dX3_allAreAreas_14 : decode cX3_allAreAreas 14 = .ok (.iload_n 2, 1) := by decide +kernel
theorem dX3_allAreAreas_15 : decode cX3_allAreAreas 15 = .ok (.iload 4, 2) := by decide +kernel
theorem dX3_allAreAreas_17 : decode cX3_allAreAreas 17 = .ok (.iadd, 1) := by decide +kernel
theorem dX3_allAreAreas_18 : decode cX3_allAreAreas 18 = .ok (.iaload, 1) := by decide +kernel
theorem dX3_allAreAreas_19 : decode cX3_allAreAreas 19 = .ok (.invokevirtual 90, 3) := by decide +kernel
theorem dX3_allAreAreas_22 : decode cX3_allAreAreas 22 = .ok (.ifCond .ne 5, 3) := by decide +kernel
theorem dX3_allAreAreas_25 : decode cX3_allAreAreas 25 = .ok (.iconst 0, 1) := by decide +kernel
theorem dX3_allAreAreas_26 : decode cX3_allAreAreas 26 = .ok (.ireturn, 1) := by decide +kernel
theorem dX3_allAreAreas_27 : decode cX3_allAreAreas 27 = .ok (.iinc 4 1, 3) := by decide +kernel
theorem dX3_allAreAreas_30 : decode cX3_allAreAreas 30 = .ok (.goto (-27), 3) := by decide +kernel
theorem dX3_allAreAreas_33 : decode cX3_allAreAreas 33 = .ok (.iconst 1, 1) := by decide +kernel
theorem dX3_allAreAreas_34 : decode cX3_allAreAreas 34 = .ok (.ireturn, 1) := by decide +kernel
theorem dX3_readingsHold_0 : decode cX3_readingsHold 0 = .ok (.iconst 0, 1) := by decide +kernel
theorem dX3_readingsHold_1 : decode cX3_readingsHold 1 = .ok (.istore_n 1, 1) := by decide +kernel
theorem dX3_readingsHold_2 : decode cX3_readingsHold 2 = .ok (.iload_n 1, 1) := by decide +kernel
theorem dX3_readingsHold_3 : decode cX3_readingsHold 3 = .ok (.aload_n 0, 1) := by decide +kernel
theorem dX3_readingsHold_4 : decode cX3_readingsHold 4 = .ok (.getfield 84, 3) := by decide +kernel
theorem dX3_readingsHold_7 : decode cX3_readingsHold 7 = .ok (.if_icmp .ge 34, 3) := by decide +kernel
theorem dX3_readingsHold_10 : decode cX3_readingsHold 10 = .ok (.aload_n 0, 1) := by decide +kernel
theorem dX3_readingsHold_11 : decode cX3_readingsHold 11 = .ok (.getfield 18, 3) := by decide +kernel
theorem dX3_readingsHold_14 : decode cX3_readingsHold 14 = .ok (.getfield 108, 3) := by decide +kernel
theorem dX3_readingsHold_17 : decode cX3_readingsHold 17 = .ok (.aload_n 0, 1) := by decide +kernel
theorem dX3_readingsHold_18 : decode cX3_readingsHold 18 = .ok (.getfield 38, 3) := by decide +kernel
theorem dX3_readingsHold_21 : decode cX3_readingsHold 21 = .ok (.iload_n 1, 1) := by decide +kernel
theorem dX3_readingsHold_22 : decode cX3_readingsHold 22 = .ok (.iaload, 1) := by decide +kernel
theorem dX3_readingsHold_23 : decode cX3_readingsHold 23 = .ok (.iaload, 1) := by decide +kernel
theorem dX3_readingsHold_24 : decode cX3_readingsHold 24 = .ok (.aload_n 0, 1) := by decide +kernel
theorem dX3_readingsHold_25 : decode cX3_readingsHold 25 = .ok (.getfield 41, 3) := by decide +kernel
theorem dX3_readingsHold_28 : decode cX3_readingsHold 28 = .ok (.iload_n 1, 1) := by decide +kernel
theorem dX3_readingsHold_29 : decode cX3_readingsHold 29 = .ok (.iaload, 1) := by decide +kernel
theorem dX3_readingsHold_30 : decode cX3_readingsHold 30 = .ok (.if_icmp .eq 5, 3) := by decide +kernel
theorem dX3_readingsHold_33 : decode cX3_readingsHold 33 = .ok (.iconst 0, 1) := by decide +kernel
theorem dX3_readingsHold_34 : decode cX3_readingsHold 34 = .ok (.ireturn, 1) := by decide +kernel
theorem dX3_readingsHold_35 : decode cX3_readingsHold 35 = .ok (.iinc 1 1, 3) := by decide +kernel
theorem dX3_readingsHold_38 : decode cX3_readingsHold 38 = .ok (.goto (-36), 3) := by decide +kernel
theorem dX3_readingsHold_41 : decode cX3_readingsHold 41 = .ok (.iconst 1, 1) := by decide +kernel
theorem dX3_readingsHold_42 : decode cX3_readingsHold 42 = .ok (.ireturn, 1) := by decide +kernel
theorem dX3_leave_0 : decode cX3_leave 0 = .ok (.aload_n 0, 1) := by decide +kernel
theorem dX3_leave_1 : decode cX3_leave 1 = .ok (.bipush 31, 2) := by decide +kernel
theorem dX3_leave_3 : decode cX3_leave 3 = .ok (.aload_n 0, 1) := by decide +kernel
theorem dX3_leave_4 : decode cX3_leave 4 = .ok (.getfield 256, 3) := by decide +kernel
theorem dX3_leave_7 : decode cX3_leave 7 = .ok (.imul, 1) := by decide +kernel
theorem dX3_leave_8 : decode cX3_leave 8 = .ok (.iload_n 1, 1) := by decide +kernel
theorem dX3_leave_9 : decode cX3_leave 9 = .ok (.iadd, 1) := by decide +kernel
theorem dX3_leave_10 : decode cX3_leave 10 = .ok (.putfield 256, 3) := by decide +kernel
theorem dX3_leave_13 : decode cX3_leave 13 = .ok (.return_, 1) := by decide +kernel
theorem dX3_plainBody_0 : decode cX3_plainBody 0 = .ok (.aload_n 0, 1) := by decide +kernel
theorem dX3_plainBody_1 : decode cX3_plainBody 1 = .ok (.iconst 1, 1) := by decide +kernel
theorem dX3_plainBody_2 : decode cX3_plainBody 2 = .ok (.invokevirtual 269, 3) := by decide +kernel
theorem dX3_plainBody_5 : decode cX3_plainBody 5 = .ok (.aload_n 0, 1) := by decide +kernel
theorem dX3_plainBody_6 : decode cX3_plainBody 6 = .ok (.getfield 14, 3) := by decide +kernel
theorem dX3_plainBody_9 : decode cX3_plainBody 9 = .ok (.getfield 96, 3) := by decide +kernel
theorem dX3_plainBody_12 : decode cX3_plainBody 12 = .ok (.iload_n 1, 1) := by decide +kernel
theorem dX3_plainBody_13 : decode cX3_plainBody 13 = .ok (.iaload, 1) := by decide +kernel
theorem dX3_plainBody_14 : decode cX3_plainBody 14 = .ok (.ireturn, 1) := by decide +kernel
theorem dX3_broadBody_0 : decode cX3_broadBody 0 = .ok (.aload_n 0, 1) := by decide +kernel
theorem dX3_broadBody_1 : decode cX3_broadBody 1 = .ok (.iconst 2, 1) := by decide +kernel
theorem dX3_broadBody_2 : decode cX3_broadBody 2 = .ok (.invokevirtual 269, 3) := by decide +kernel
theorem dX3_broadBody_5 : decode cX3_broadBody 5 = .ok (.aload_n 0, 1) := by decide +kernel
theorem dX3_broadBody_6 : decode cX3_broadBody 6 = .ok (.iload_n 1, 1) := by decide +kernel
theorem dX3_broadBody_7 : decode cX3_broadBody 7 = .ok (.invokevirtual 247, 3) := by decide +kernel
theorem dX3_broadBody_10 : decode cX3_broadBody 10 = .ok (.bipush 100, 2) := by decide +kernel
theorem dX3_broadBody_12 : decode cX3_broadBody 12 = .ok (.iadd, 1) := by decide +kernel
theorem dX3_broadBody_13 : decode cX3_broadBody 13 = .ok (.ireturn, 1) := by decide +kernel
theorem dX3_doubleBody_0 : decode cX3_doubleBody 0 = .ok (.aload_n 0, 1) := by decide +kernel
theorem dX3_doubleBody_1 : decode cX3_doubleBody 1 = .ok (.iconst 3, 1) := by decide +kernel
theorem dX3_doubleBody_2 : decode cX3_doubleBody 2 = .ok (.invokevirtual 269, 3) := by decide +kernel
theorem dX3_doubleBody_5 : decode cX3_doubleBody 5 = .ok (.aload_n 0, 1) := by decide +kernel
theorem dX3_doubleBody_6 : decode cX3_doubleBody 6 = .ok (.iload_n 1, 1) := by decide +kernel
theorem dX3_doubleBody_7 : decode cX3_doubleBody 7 = .ok (.invokevirtual 244, 3) := by decide +kernel
theorem dX3_doubleBody_10 : decode cX3_doubleBody 10 = .ok (.istore_n 2, 1) := by decide +kernel
theorem dX3_doubleBody_11 : decode cX3_doubleBody 11 = .ok (.iload_n 2, 1) := by decide +kernel
theorem dX3_doubleBody_12 : decode cX3_doubleBody 12 = .ok (.aload_n 0, 1) := by decide +kernel
theorem dX3_doubleBody_13 : decode cX3_doubleBody 13 = .ok (.iload_n 1, 1) := by decide +kernel
theorem dX3_doubleBody_14 : decode cX3_doubleBody 14 = .ok (.invokevirtual 247, 3) := by decide +kernel
theorem dX3_doubleBody_17 : decode cX3_doubleBody 17 = .ok (.iadd, 1) := by decide +kernel
theorem dX3_doubleBody_18 : decode cX3_doubleBody 18 = .ok (.ireturn, 1) := by decide +kernel
theorem dX3_lentBody_0 : decode cX3_lentBody 0 = .ok (.aload_n 0, 1) := by decide +kernel
theorem dX3_lentBody_1 : decode cX3_lentBody 1 = .ok (.iconst 4, 1) := by decide +kernel
theorem dX3_lentBody_2 : decode cX3_lentBody 2 = .ok (.invokevirtual 269, 3) := by decide +kernel
theorem dX3_lentBody_5 : decode cX3_lentBody 5 = .ok (.aload_n 0, 1) := by decide +kernel
theorem dX3_lentBody_6 : decode cX3_lentBody 6 = .ok (.getfield 14, 3) := by decide +kernel
theorem dX3_lentBody_9 : decode cX3_lentBody 9 = .ok (.getfield 99, 3) := by decide +kernel
theorem dX3_lentBody_12 : decode cX3_lentBody 12 = .ok (.iload_n 1, 1) := by decide +kernel
theorem dX3_lentBody_13 : decode cX3_lentBody 13 = .ok (.iaload, 1) := by decide +kernel
theorem dX3_lentBody_14 : decode cX3_lentBody 14 = .ok (.ireturn, 1) := by decide +kernel
theorem dX3_ownBody_0 : decode cX3_ownBody 0 = .ok (.aload_n 0, 1) := by decide +kernel
theorem dX3_ownBody_1 : decode cX3_ownBody 1 = .ok (.iconst 5, 1) := by decide +kernel
theorem dX3_ownBody_2 : decode cX3_ownBody 2 = .ok (.invokevirtual 269, 3) := by decide +kernel
theorem dX3_ownBody_5 : decode cX3_ownBody 5 = .ok (.aload_n 0, 1) := by decide +kernel
theorem dX3_ownBody_6 : decode cX3_ownBody 6 = .ok (.iload_n 1, 1) := by decide +kernel
theorem dX3_ownBody_7 : decode cX3_ownBody 7 = .ok (.invokevirtual 253, 3) := by decide +kernel
theorem dX3_ownBody_10 : decode cX3_ownBody 10 = .ok (.bipush 30, 2) := by decide +kernel
theorem dX3_ownBody_12 : decode cX3_ownBody 12 = .ok (.iadd, 1) := by decide +kernel
theorem dX3_ownBody_13 : decode cX3_ownBody 13 = .ok (.ireturn, 1) := by decide +kernel
end
section
theorem dX4_init_0 : decode cX4_init 0 = .ok (.aload_n 0, 1) := by decide +kernel
theorem dX4_init_1 : decode cX4_init 1 = .ok (.invokespecial 1, 3) := by decide +kernel
theorem dX4_init_4 : decode cX4_init 4 = .ok (.aload_n 0, 1) := by decide +kernel
theorem dX4_init_5 : decode cX4_init 5 = .ok (.iconst 4, 1) := by decide +kernel
theorem dX4_init_6 : decode cX4_init 6 = .ok (.newarray .int, 2) := by decide +kernel
theorem dX4_init_8 : decode cX4_init 8 = .ok (.dup, 1) := by decide +kernel
theorem dX4_init_9 : decode cX4_init 9 = .ok (.iconst 0, 1) := by decide +kernel
theorem dX4_init_10 : decode cX4_init 10 = .ok (.bipush (-9), 2) := by decide +kernel
theorem dX4_init_12 : decode cX4_init 12 = .ok (.iastore, 1) := by decide +kernel
theorem dX4_init_13 : decode cX4_init 13 = .ok (.dup, 1) := by decide +kernel
theorem dX4_init_14 : decode cX4_init 14 = .ok (.iconst 1, 1) := by decide +kernel
theorem dX4_init_15 : decode cX4_init 15 = .ok (.bipush (-9), 2) := by decide +kernel
theorem dX4_init_17 : decode cX4_init 17 = .ok (.iastore, 1) := by decide +kernel
theorem dX4_init_18 : decode cX4_init 18 = .ok (.dup, 1) := by decide +kernel
theorem dX4_init_19 : decode cX4_init 19 = .ok (.iconst 2, 1) := by decide +kernel
theorem dX4_init_20 : decode cX4_init 20 = .ok (.bipush (-9), 2) := by decide +kernel
theorem dX4_init_22 : decode cX4_init 22 = .ok (.iastore, 1) := by decide +kernel
theorem dX4_init_23 : decode cX4_init 23 = .ok (.dup, 1) := by decide +kernel
theorem dX4_init_24 : decode cX4_init 24 = .ok (.iconst 3, 1) := by decide +kernel
theorem dX4_init_25 : decode cX4_init 25 = .ok (.bipush (-9), 2) := by decide +kernel
theorem dX4_init_27 : decode cX4_init 27 = .ok (.iastore, 1) := by decide +kernel
theorem dX4_init_28 : decode cX4_init 28 = .ok (.putfield 9, 3) := by decide +kernel
theorem dX4_init_31 : decode cX4_init 31 = .ok (.aload_n 0, 1) := by decide +kernel
theorem dX4_init_32 : decode cX4_init 32 = .ok (.iconst 4, 1) := by decide +kernel
theorem dX4_init_33 : decode cX4_init 33 = .ok (.newarray .int, 2) := by decide +kernel
theorem dX4_init_35 : decode cX4_init 35 = .ok (.putfield 13, 3) := by decide +kernel
theorem dX4_init_38 : decode cX4_init 38 = .ok (.aload_n 0, 1) := by decide +kernel
theorem dX4_init_39 : decode cX4_init 39 = .ok (.sipush 240, 3) := by decide +kernel
theorem dX4_init_42 : decode cX4_init 42 = .ok (.newarray .int, 2) := by decide +kernel
theorem dX4_init_44 : decode cX4_init 44 = .ok (.putfield 16, 3) := by decide +kernel
theorem dX4_init_47 : decode cX4_init 47 = .ok (.aload_n 0, 1) := by decide +kernel
theorem dX4_init_48 : decode cX4_init 48 = .ok (.bipush 6, 2) := by decide +kernel
theorem dX4_init_50 : decode cX4_init 50 = .ok (.newarray .int, 2) := by decide +kernel
theorem dX4_init_52 : decode cX4_init 52 = .ok (.putfield 19, 3) := by decide +kernel
theorem dX4_init_55 : decode cX4_init 55 = .ok (.aload_n 0, 1) := by decide +kernel
theorem dX4_init_56 : decode cX4_init 56 = .ok (.bipush 6, 2) := by decide +kernel
theorem dX4_init_58 : decode cX4_init 58 = .ok (.newarray .int, 2) := by decide +kernel
theorem dX4_init_60 : decode cX4_init 60 = .ok (.putfield 22, 3) := by decide +kernel
theorem dX4_init_63 : decode cX4_init 63 = .ok (.aload_n 0, 1) := by decide +kernel
theorem dX4_init_64 : decode cX4_init 64 = .ok (.bipush 6, 2) := by decide +kernel
theorem dX4_init_66 : decode cX4_init 66 = .ok (.newarray .int, 2) := by decide +kernel
theorem dX4_init_68 : decode cX4_init 68 = .ok (.putfield 25, 3) := by decide +kernel
theorem dX4_init_71 : decode cX4_init 71 = .ok (.aload_n 0, 1) := by decide +kernel
theorem dX4_init_72 : decode cX4_init 72 = .ok (.bipush 6, 2) := by decide +kernel
theorem dX4_init_74 : decode cX4_init 74 = .ok (.newarray .int, 2) := by decide +kernel
theorem dX4_init_76 : decode cX4_init 76 = .ok (.putfield 28, 3) := by decide +kernel
theorem dX4_init_79 : decode cX4_init 79 = .ok (.aload_n 0, 1) := by decide +kernel
theorem dX4_init_80 : decode cX4_init 80 = .ok (.bipush 12, 2) := by decide +kernel
theorem dX4_init_82 : decode cX4_init 82 = .ok (.newarray .int, 2) := by decide +kernel
theorem dX4_init_84 : decode cX4_init 84 = .ok (.putfield 31, 3) := by decide +kernel
theorem dX4_init_87 : decode cX4_init 87 = .ok (.aload_n 0, 1) := by decide +kernel
theorem dX4_init_88 : decode cX4_init 88 = .ok (.bipush 6, 2) := by decide +kernel
theorem dX4_init_90 : decode cX4_init 90 = .ok (.newarray .int, 2) := by decide +kernel
theorem dX4_init_92 : decode cX4_init 92 = .ok (.putfield 34, 3) := by decide +kernel
theorem dX4_init_95 : decode cX4_init 95 = .ok (.aload_n 0, 1) := by decide +kernel
theorem dX4_init_96 : decode cX4_init 96 = .ok (.bipush 6, 2) := by decide +kernel
theorem dX4_init_98 : decode cX4_init 98 = .ok (.newarray .int, 2) := by decide +kernel
theorem dX4_init_100 : decode cX4_init 100 = .ok (.putfield 37, 3) := by decide +kernel
theorem dX4_init_103 : decode cX4_init 103 = .ok (.aload_n 0, 1) := by decide +kernel
theorem dX4_init_104 : decode cX4_init 104 = .ok (.bipush 6, 2) := by decide +kernel
theorem dX4_init_106 : decode cX4_init 106 = .ok (.newarray .int, 2) := by decide +kernel
theorem dX4_init_108 : decode cX4_init 108 = .ok (.putfield 40, 3) := by decide +kernel
theorem dX4_init_111 : decode cX4_init 111 = .ok (.aload_n 0, 1) := by decide +kernel
theorem dX4_init_112 : decode cX4_init 112 = .ok (.bipush 6, 2) := by decide +kernel
theorem dX4_init_114 : decode cX4_init 114 = .ok (.newarray .int, 2) := by decide +kernel
theorem dX4_init_116 : decode cX4_init 116 = .ok (.putfield 43, 3) := by decide +kernel
theorem dX4_init_119 : decode cX4_init 119 = .ok (.aload_n 0, 1) := by decide +kernel
theorem dX4_init_120 : decode cX4_init 120 = .ok (.bipush 12, 2) := by decide +kernel
theorem dX4_init_122 : decode cX4_init 122 = .ok (.newarray .int, 2) := by decide +kernel
theorem dX4_init_124 : decode cX4_init 124 = .ok (.putfield 46, 3) := by decide +kernel
theorem dX4_init_127 : decode cX4_init 127 = .ok (.aload_n 0, 1) := by decide +kernel
theorem dX4_init_128 : decode cX4_init 128 = .ok (.bipush 6, 2) := by decide +kernel
theorem dX4_init_130 : decode cX4_init 130 = .ok (.newarray .int, 2) := by decide +kernel
theorem dX4_init_132 : decode cX4_init 132 = .ok (.putfield 49, 3) := by decide +kernel
theorem dX4_init_135 : decode cX4_init 135 = .ok (.aload_n 0, 1) := by decide +kernel
theorem dX4_init_136 : decode cX4_init 136 = .ok (.bipush 6, 2) := by decide +kernel
theorem dX4_init_138 : decode cX4_init 138 = .ok (.newarray .int, 2) := by decide +kernel
theorem dX4_init_140 : decode cX4_init 140 = .ok (.putfield 52, 3) := by decide +kernel
theorem dX4_init_143 : decode cX4_init 143 = .ok (.aload_n 0, 1) := by decide +kernel
theorem dX4_init_144 : decode cX4_init 144 = .ok (.bipush 6, 2) := by decide +kernel
theorem dX4_init_146 : decode cX4_init 146 = .ok (.newarray .int, 2) := by decide +kernel
theorem dX4_init_148 : decode cX4_init 148 = .ok (.putfield 55, 3) := by decide +kernel
theorem dX4_init_151 : decode cX4_init 151 = .ok (.aload_n 0, 1) := by decide +kernel
theorem dX4_init_152 : decode cX4_init 152 = .ok (.bipush 6, 2) := by decide +kernel
theorem dX4_init_154 : decode cX4_init 154 = .ok (.newarray .int, 2) := by decide +kernel
theorem dX4_init_156 : decode cX4_init 156 = .ok (.putfield 58, 3) := by decide +kernel
theorem dX4_init_159 : decode cX4_init 159 = .ok (.aload_n 0, 1) := by decide +kernel
theorem dX4_init_160 : decode cX4_init 160 = .ok (.bipush 24, 2) := by decide +kernel
theorem dX4_init_162 : decode cX4_init 162 = .ok (.newarray .int, 2) := by decide +kernel
theorem dX4_init_164 : decode cX4_init 164 = .ok (.putfield 61, 3) := by decide +kernel
theorem dX4_init_167 : decode cX4_init 167 = .ok (.aload_n 0, 1) := by decide +kernel
theorem dX4_init_168 : decode cX4_init 168 = .ok (.bipush 6, 2) := by decide +kernel
theorem dX4_init_170 : decode cX4_init 170 = .ok (.newarray .int, 2) := by decide +kernel
theorem dX4_init_172 : decode cX4_init 172 = .ok (.putfield 64, 3) := by decide +kernel
theorem dX4_init_175 : decode cX4_init 175 = .ok (.aload_n 0, 1) := by decide +kernel
theorem dX4_init_176 : decode cX4_init 176 = .ok (.bipush 6, 2) := by decide +kernel
theorem dX4_init_178 : decode cX4_init 178 = .ok (.newarray .int, 2) := by decide +kernel
theorem dX4_init_180 : decode cX4_init 180 = .ok (.putfield 67, 3) := by decide +kernel
theorem dX4_init_183 : decode cX4_init 183 = .ok (.aload_n 0, 1) := by decide +kernel
theorem dX4_init_184 : decode cX4_init 184 = .ok (.bipush 8, 2) := by decide +kernel
theorem dX4_init_186 : decode cX4_init 186 = .ok (.newarray .int, 2) := by decide +kernel
theorem dX4_init_188 : decode cX4_init 188 = .ok (.putfield 70, 3) := by decide +kernel
theorem dX4_init_191 : decode cX4_init 191 = .ok (.aload_n 0, 1) := by decide +kernel
theorem dX4_init_192 : decode cX4_init 192 = .ok (.bipush 8, 2) := by decide +kernel
theorem dX4_init_194 : decode cX4_init 194 = .ok (.newarray .int, 2) := by decide +kernel
theorem dX4_init_196 : decode cX4_init 196 = .ok (.putfield 73, 3) := by decide +kernel
theorem dX4_init_199 : decode cX4_init 199 = .ok (.return_, 1) := by decide +kernel
theorem dX4_fails_0 : decode cX4_fails 0 = .ok (.aload_n 0, 1) := by decide +kernel
theorem dX4_fails_1 : decode cX4_fails 1 = .ok (.iload_n 1, 1) := by decide +kernel
theorem dX4_fails_2 : decode cX4_fails 2 = .ok (.putfield 76, 3) := by decide +kernel
theorem dX4_fails_5 : decode cX4_fails 5 = .ok (.bipush (-10), 2) := by decide +kernel
theorem dX4_fails_7 : decode cX4_fails 7 = .ok (.iload_n 1, 1) := by decide +kernel
theorem dX4_fails_8 : decode cX4_fails 8 = .ok (.isub, 1) := by decide +kernel
theorem dX4_fails_9 : decode cX4_fails 9 = .ok (.ireturn, 1) := by decide +kernel
theorem dX4_lost_0 : decode cX4_lost 0 = .ok (.aload_n 0, 1) := by decide +kernel
theorem dX4_lost_1 : decode cX4_lost 1 = .ok (.iload_n 1, 1) := by decide +kernel
theorem dX4_lost_2 : decode cX4_lost 2 = .ok (.putfield 76, 3) := by decide +kernel
theorem dX4_lost_5 : decode cX4_lost 5 = .ok (.ldc2_w 80, 3) := by decide +kernel
theorem dX4_lost_8 : decode cX4_lost 8 = .ok (.lreturn, 1) := by decide +kernel
theorem dX4_within_0 : decode cX4_within 0 = .ok (.iload_n 0, 1) := by decide +kernel
theorem dX4_within_1 : decode cX4_within 1 = .ok (.iload_n 1, 1) := by decide +kernel
theorem dX4_within_2 : decode cX4_within 2 = .ok (.if_icmp .lt 12, 3) := by decide +kernel
theorem dX4_within_5 : decode cX4_within 5 = .ok (.iload_n 0, 1) := by decide +kernel
theorem dX4_within_6 : decode cX4_within 6 = .ok (.iload_n 2, 1) := by decide +kernel
theorem dX4_within_7 : decode cX4_within 7 = .ok (.if_icmp .gt 7, 3) := by decide +kernel
theorem dX4_within_10 : decode cX4_within 10 = .ok (.iconst 1, 1) := by decide +kernel
theorem dX4_within_11 : decode cX4_within 11 = .ok (.goto 4, 3) := by decide +kernel
theorem dX4_within_14 : decode cX4_within 14 = .ok (.iconst 0, 1) := by decide +kernel
theorem dX4_within_15 : decode cX4_within 15 = .ok (.ireturn, 1) := by decide +kernel
theorem dX4_isSheet_0 : decode cX4_isSheet 0 = .ok (.iload_n 0, 1) := by decide +kernel
theorem dX4_isSheet_1 : decode cX4_isSheet 1 = .ok (.iconst 0, 1) := by decide +kernel
theorem dX4_isSheet_2 : decode cX4_isSheet 2 = .ok (.iconst 3, 1) := by decide +kernel
theorem dX4_isSheet_3 : decode cX4_isSheet 3 = .ok (.invokestatic 82, 3) := by decide +kernel
theorem dX4_isSheet_6 : decode cX4_isSheet 6 = .ok (.ireturn, 1) := by decide +kernel
theorem dX4_isSort_0 : decode cX4_isSort 0 = .ok (.iload_n 0, 1) := by decide +kernel
theorem dX4_isSort_1 : decode cX4_isSort 1 = .ok (.iconst 0, 1) := by decide +kernel
theorem dX4_isSort_2 : decode cX4_isSort 2 = .ok (.iconst 2, 1) := by decide +kernel
theorem dX4_isSort_3 : decode cX4_isSort 3 = .ok (.invokestatic 82, 3) := by decide +kernel
theorem dX4_isSort_6 : decode cX4_isSort 6 = .ok (.ireturn, 1) := by decide +kernel
theorem dX4_against_0 : decode cX4_against 0 = .ok (.aload_n 0, 1) := by decide +kernel
theorem dX4_against_1 : decode cX4_against 1 = .ok (.getfield 9, 3) := by decide +kernel
theorem dX4_against_4 : decode cX4_against 4 = .ok (.iload_n 1, 1) := by decide +kernel
theorem dX4_against_5 : decode cX4_against 5 = .ok (.iaload, 1) := by decide +kernel
theorem dX4_against_6 : decode cX4_against 6 = .ok (.bipush (-9), 2) := by decide +kernel
theorem dX4_against_8 : decode cX4_against 8 = .ok (.if_icmp .eq 15, 3) := by decide +kernel
theorem dX4_against_11 : decode cX4_against 11 = .ok (.aload_n 0, 1) := by decide +kernel
theorem dX4_against_12 : decode cX4_against 12 = .ok (.getfield 9, 3) := by decide +kernel
theorem dX4_against_15 : decode cX4_against 15 = .ok (.iload_n 1, 1) := by decide +kernel
theorem dX4_against_16 : decode cX4_against 16 = .ok (.iaload, 1) := by decide +kernel
theorem dX4_against_17 : decode cX4_against 17 = .ok (.iload_n 2, 1) := by decide +kernel
theorem dX4_against_18 : decode cX4_against 18 = .ok (.if_icmp .eq 5, 3) := by decide +kernel
theorem dX4_against_21 : decode cX4_against 21 = .ok (.iconst 2, 1) := by decide +kernel
theorem dX4_against_22 : decode cX4_against 22 = .ok (.ireturn, 1) := by decide +kernel
theorem dX4_against_23 : decode cX4_against 23 = .ok (.aload_n 0, 1) := by decide +kernel
theorem dX4_against_24 : decode cX4_against 24 = .ok (.getfield 9, 3) := by decide +kernel
theorem dX4_against_27 : decode cX4_against 27 = .ok (.iload_n 1, 1) := by decide +kernel
theorem dX4_against_28 : decode cX4_against 28 = .ok (.iaload, 1) := by decide +kernel
theorem dX4_against_29 : decode cX4_against 29 = .ok (.bipush (-9), 2) := by decide +kernel
theorem dX4_against_31 : decode cX4_against 31 = .ok (.if_icmp .ne 5, 3) := by decide +kernel
theorem dX4_against_34 : decode cX4_against 34 = .ok (.iconst 1, 1) := by decide +kernel
theorem dX4_against_35 : decode cX4_against 35 = .ok (.ireturn, 1) := by decide +kernel
theorem dX4_against_36 : decode cX4_against 36 = .ok (.iload 4, 2) := by decide +kernel
theorem dX4_against_38 : decode cX4_against 38 = .ok (.ifCond .ge 5, 3) := by decide +kernel
theorem dX4_against_41 : decode cX4_against 41 = .ok (.iconst 4, 1) := by decide +kernel
theorem dX4_against_42 : decode cX4_against 42 = .ok (.ireturn, 1) := by decide +kernel
theorem dX4_against_43 : decode cX4_against 43 = .ok (.iload_n 3, 1) := by decide +kernel
theorem dX4_against_44 : decode cX4_against 44 = .ok (.ifCond .lt 26, 3) := by decide +kernel
theorem dX4_against_47 : decode cX4_against 47 = .ok (.iload_n 3, 1) := by decide +kernel
theorem dX4_against_48 : decode cX4_against 48 = .ok (.aload_n 0, 1) := by decide +kernel
theorem dX4_against_49 : decode cX4_against 49 = .ok (.getfield 13, 3) := by decide +kernel
theorem dX4_against_52 : decode cX4_against 52 = .ok (.iload_n 1, 1) := by decide +kernel
theorem dX4_against_53 : decode cX4_against 53 = .ok (.iaload, 1) := by decide +kernel
theorem dX4_against_54 : decode cX4_against 54 = .ok (.if_icmp .gt 16, 3) := by decide +kernel
theorem dX4_against_57 : decode cX4_against 57 = .ok (.iload 4, 2) := by decide +kernel
theorem dX4_against_59 : decode cX4_against 59 = .ok (.aload_n 0, 1) := by decide +kernel
theorem dX4_against_60 : decode cX4_against 60 = .ok (.getfield 13, 3) := by decide +kernel
theorem dX4_against_63 : decode cX4_against 63 = .ok (.iload_n 1, 1) := by decide +kernel
theorem dX4_against_64 : decode cX4_against 64 = .ok (.iaload, 1) := by decide +kernel
theorem dX4_against_65 : decode cX4_against 65 = .ok (.iload_n 3, 1) := by decide +kernel
theorem dX4_against_66 : decode cX4_against 66 = .ok (.isub, 1) := by decide +kernel
theorem dX4_against_67 : decode cX4_against 67 = .ok (.if_icmp .le 7, 3) := by decide +kernel
theorem dX4_against_70 : decode cX4_against 70 = .ok (.iconst 3, 1) := by decide +kernel
theorem dX4_against_71 : decode cX4_against 71 = .ok (.goto 4, 3) := by decide +kernel
theorem dX4_against_74 : decode cX4_against 74 = .ok (.iconst 0, 1) := by decide +kernel
theorem dX4_against_75 : decode cX4_against 75 = .ok (.ireturn, 1) := by decide +kernel
theorem dX4_isArea_0 : decode cX4_isArea 0 = .ok (.iload_n 1, 1) := by decide +kernel
theorem dX4_isArea_1 : decode cX4_isArea 1 = .ok (.ifCond .lt 15, 3) := by decide +kernel
theorem dX4_isArea_4 : decode cX4_isArea 4 = .ok (.iload_n 1, 1) := by decide +kernel
theorem dX4_isArea_5 : decode cX4_isArea 5 = .ok (.aload_n 0, 1) := by decide +kernel
theorem dX4_isArea_6 : decode cX4_isArea 6 = .ok (.getfield 86, 3) := by decide +kernel
theorem dX4_isArea_9 : decode cX4_isArea 9 = .ok (.if_icmp .ge 7, 3) := by decide +kernel
theorem dX4_isArea_12 : decode cX4_isArea 12 = .ok (.iconst 1, 1) := by decide +kernel
theorem dX4_isArea_13 : decode cX4_isArea 13 = .ok (.goto 4, 3) := by decide +kernel
theorem dX4_isArea_16 : decode cX4_isArea 16 = .ok (.iconst 0, 1) := by decide +kernel
theorem dX4_isArea_17 : decode cX4_isArea 17 = .ok (.ireturn, 1) := by decide +kernel
theorem dX4_size_0 : decode cX4_size 0 = .ok (.iconst 0, 1) := by decide +kernel
theorem dX4_size_1 : decode cX4_size 1 = .ok (.istore_n 1, 1) := by decide +kernel
theorem dX4_size_2 : decode cX4_size 2 = .ok (.iload_n 0, 1) := by decide +kernel
theorem dX4_size_3 : decode cX4_size 3 = .ok (.istore_n 2, 1) := by decide +kernel
theorem dX4_size_4 : decode cX4_size 4 = .ok (.iload_n 2, 1) := by decide +kernel
theorem dX4_size_5 : decode cX4_size 5 = .ok (.ifCond .le 16, 3) := by decide +kernel
theorem dX4_size_8 : decode cX4_size 8 = .ok (.iload_n 1, 1) := by decide +kernel
theorem dX4_size_9 : decode cX4_size 9 = .ok (.iload_n 2, 1) := by decide +kernel
theorem dX4_size_10 : decode cX4_size 10 = .ok (.iconst 1, 1) := by decide +kernel
theorem dX4_size_11 : decode cX4_size 11 = .ok (.iand, 1) := by decide +kernel
theorem dX4_size_12 : decode cX4_size 12 = .ok (.iadd, 1) := by decide +kernel
theorem dX4_size_13 : decode cX4_size 13 = .ok (.istore_n 1, 1) := by decide +kernel
theorem dX4_size_14 : decode cX4_size 14 = .ok (.iload_n 2, 1) := by decide +kernel
theorem dX4_size_15 : decode cX4_size 15 = .ok (.iconst 1, 1) := by decide +kernel
theorem dX4_size_16 : decode cX4_size 16 = .ok (.ishr, 1) := by decide +kernel
theorem dX4_size_17 : decode cX4_size 17 = .ok (.istore_n 2, 1) := by decide +kernel
theorem dX4_size_18 : decode cX4_size 18 = .ok (.goto (-14), 3) := by decide +kernel
theorem dX4_size_21 : decode cX4_size 21 = .ok (.iload_n 1, 1) := by decide +kernel
theorem dX4_size_22 : decode cX4_size 22 = .ok (.ireturn, 1) := by decide +kernel
theorem dX4_digit_0 : decode cX4_digit 0 = .ok (.aload_n 0, 1) := by decide +kernel
theorem dX4_digit_1 : decode cX4_digit 1 = .ok (.getfield 89, 3) := by decide +kernel
theorem dX4_digit_4 : decode cX4_digit 4 = .ok (.iload_n 1, 1) := by decide +kernel
theorem dX4_digit_5 : decode cX4_digit 5 = .ok (.if_icmp .ge 26, 3) := by decide +kernel
theorem dX4_digit_8 : decode cX4_digit 8 = .ok (.aload_n 0, 1) := by decide +kernel
theorem dX4_digit_9 : decode cX4_digit 9 = .ok (.getfield 16, 3) := by decide +kernel
theorem dX4_digit_12 : decode cX4_digit 12 = .ok (.aload_n 0, 1) := by decide +kernel
theorem dX4_digit_13 : decode cX4_digit 13 = .ok (.getfield 89, 3) := by decide +kernel
theorem dX4_digit_16 : decode cX4_digit 16 = .ok (.iaload, 1) := by decide +kernel
theorem dX4_digit_17 : decode cX4_digit 17 = .ok (.bipush 48, 2) := by decide +kernel
theorem dX4_digit_19 : decode cX4_digit 19 = .ok (.iload_n 2, 1) := by decide +kernel
theorem dX4_digit_20 : decode cX4_digit 20 = .ok (.iadd, 1) := by decide +kernel
theorem dX4_digit_21 : decode cX4_digit 21 = .ok (.bipush 48, 2) := by decide +kernel
theorem dX4_digit_23 : decode cX4_digit 23 = .ok (.iload_n 3, 1) := by decide +kernel
theorem dX4_digit_24 : decode cX4_digit 24 = .ok (.iadd, 1) := by decide +kernel
theorem dX4_digit_25 : decode cX4_digit 25 = .ok (.invokestatic 82, 3) := by decide +kernel
theorem dX4_digit_28 : decode cX4_digit 28 = .ok (.ifCond .ne 6, 3) := by decide +kernel
theorem dX4_digit_31 : decode cX4_digit 31 = .ok (.bipush (-9), 2) := by decide +kernel
theorem dX4_digit_33 : decode cX4_digit 33 = .ok (.ireturn, 1) := by decide +kernel
theorem dX4_digit_34 : decode cX4_digit 34 = .ok (.aload_n 0, 1) := by decide +kernel
theorem dX4_digit_35 : decode cX4_digit 35 = .ok (.dup, 1) := by decide +kernel
theorem dX4_digit_36 : decode cX4_digit 36 = .ok (.getfield 89, 3) := by decide +kernel
theorem dX4_digit_39 : decode cX4_digit 39 = .ok (.iconst 1, 1) := by decide +kernel
theorem dX4_digit_40 : decode cX4_digit 40 = .ok (.iadd, 1) := by decide +kernel
theorem dX4_digit_41 : decode cX4_digit 41 = .ok (.putfield 89, 3) := by decide +kernel
theorem dX4_digit_44 : decode cX4_digit 44 = .ok (.aload_n 0, 1) := by decide +kernel
theorem dX4_digit_45 : decode cX4_digit 45 = .ok (.getfield 16, 3) := by decide +kernel
theorem dX4_digit_48 : decode cX4_digit 48 = .ok (.aload_n 0, 1) := by decide +kernel
theorem dX4_digit_49 : decode cX4_digit 49 = .ok (.getfield 89, 3) := by decide +kernel
theorem dX4_digit_52 : decode cX4_digit 52 = .ok (.iconst 1, 1) := by decide +kernel
theorem dX4_digit_53 : decode cX4_digit 53 = .ok (.isub, 1) := by decide +kernel
theorem dX4_digit_54 : decode cX4_digit 54 = .ok (.iaload, 1) := by decide +kernel
theorem dX4_digit_55 : decode cX4_digit 55 = .ok (.bipush 48, 2) := by decide +kernel
theorem dX4_digit_57 : decode cX4_digit 57 = .ok (.isub, 1) := by decide +kernel
theorem dX4_digit_58 : decode cX4_digit 58 = .ok (.ireturn, 1) := by decide +kernel
theorem dX4_isSign_0 : decode cX4_isSign 0 = .ok (.aload_n 0, 1) := by decide +kernel
theorem dX4_isSign_1 : decode cX4_isSign 1 = .ok (.getfield 89, 3) := by decide +kernel
theorem dX4_isSign_4 : decode cX4_isSign 4 = .ok (.iload_n 1, 1) := by decide +kernel
theorem dX4_isSign_5 : decode cX4_isSign 5 = .ok (.if_icmp .ge 16, 3) := by decide +kernel
theorem dX4_isSign_8 : decode cX4_isSign 8 = .ok (.aload_n 0, 1) := by decide +kernel
theorem dX4_isSign_9 : decode cX4_isSign 9 = .ok (.getfield 16, 3) := by decide +kernel
theorem dX4_isSign_12 : decode cX4_isSign 12 = .ok (.aload_n 0, 1) := by decide +kernel
theorem dX4_isSign_13 : decode cX4_isSign 13 = .ok (.getfield 89, 3) := by decide +kernel
theorem dX4_isSign_16 : decode cX4_isSign 16 = .ok (.iaload, 1) := by decide +kernel
theorem dX4_isSign_17 : decode cX4_isSign 17 = .ok (.iload_n 2, 1) := by decide +kernel
theorem dX4_isSign_18 : decode cX4_isSign 18 = .ok (.if_icmp .eq 5, 3) := by decide +kernel
theorem dX4_isSign_21 : decode cX4_isSign 21 = .ok (.iconst 0, 1) := by decide +kernel
theorem dX4_isSign_22 : decode cX4_isSign 22 = .ok (.ireturn, 1) := by decide +kernel
theorem dX4_isSign_23 : decode cX4_isSign 23 = .ok (.aload_n 0, 1) := by decide +kernel
theorem dX4_isSign_24 : decode cX4_isSign 24 = .ok (.dup, 1) := by decide +kernel
theorem dX4_isSign_25 : decode cX4_isSign 25 = .ok (.getfield 89, 3) := by decide +kernel
theorem dX4_isSign_28 : decode cX4_isSign 28 = .ok (.iconst 1, 1) := by decide +kernel
theorem dX4_isSign_29 : decode cX4_isSign 29 = .ok (.iadd, 1) := by decide +kernel
theorem dX4_isSign_30 : decode cX4_isSign 30 = .ok (.putfield 89, 3) := by decide +kernel
theorem dX4_isSign_33 : decode cX4_isSign 33 = .ok (.iconst 1, 1) := by decide +kernel
theorem dX4_isSign_34 : decode cX4_isSign 34 = .ok (.ireturn, 1) := by decide +kernel
theorem dX4_map_0 : decode cX4_map 0 = .ok (.aload_n 0, 1) := by decide +kernel
theorem dX4_map_1 : decode cX4_map 1 = .ok (.iconst 0, 1) := by decide +kernel
theorem dX4_map_2 : decode cX4_map 2 = .ok (.putfield 76, 3) := by decide +kernel
theorem dX4_map_5 : decode cX4_map 5 = .ok (.iload_n 1, 1) := by decide +kernel
theorem dX4_map_6 : decode cX4_map 6 = .ok (.invokestatic 92, 3) := by decide +kernel
theorem dX4_map_9 : decode cX4_map 9 = .ok (.ifCond .ne 5, 3) := by decide +kernel
theorem dX4_map_12 : decode cX4_map 12 = .ok (.iconst (-1), 1) := by decide +kernel
theorem dX4_map_13 : decode cX4_map 13 = .ok (.ireturn, 1) := by decide +kernel
theorem dX4_map_14 : decode cX4_map 14 = .ok (.iload_n 2, 1) := by decide +kernel
theorem dX4_map_15 : decode cX4_map 15 = .ok (.invokestatic 96, 3) := by decide +kernel
theorem dX4_map_18 : decode cX4_map 18 = .ok (.ifCond .ne 6, 3) := by decide +kernel
theorem dX4_map_21 : decode cX4_map 21 = .ok (.bipush (-2), 2) := by decide +kernel
theorem dX4_map_23 : decode cX4_map 23 = .ok (.ireturn, 1) := by decide +kernel
theorem dX4_map_24 : decode cX4_map 24 = .ok (.aload_n 0, 1) := by decide +kernel
theorem dX4_map_25 : decode cX4_map 25 = .ok (.iload_n 1, 1) := by decide +kernel
theorem dX4_map_26 : decode cX4_map 26 = .ok (.iload_n 2, 1) := by decide +kernel
theorem dX4_map_27 : decode cX4_map 27 = .ok (.iload_n 3, 1) := by decide +kernel
theorem dX4_map_28 : decode cX4_map 28 = .ok (.iload 4, 2) := by decide +kernel
theorem dX4_map_30 : decode cX4_map 30 = .ok (.invokevirtual 99, 3) := by decide +kernel
theorem dX4_map_33 : decode cX4_map 33 = .ok (.istore 5, 2) := by decide +kernel
theorem dX4_map_35 : decode cX4_map 35 = .ok (.iload 5, 2) := by decide +kernel
theorem dX4_map_37 : decode cX4_map 37 = .ok (.ifCond .eq 10, 3) := by decide +kernel
theorem dX4_map_40 : decode cX4_map 40 = .ok (.aload_n 0, 1) := by decide +kernel
theorem dX4_map_41 : decode cX4_map 41 = .ok (.iload 5, 2) := by decide +kernel
theorem dX4_map_43 : decode cX4_map 43 = .ok (.invokevirtual 103, 3) := by decide +kernel
theorem dX4_map_46 : decode cX4_map 46 = .ok (.ireturn, 1) := by decide +kernel
theorem dX4_map_47 : decode cX4_map 47 = .ok (.bipush 60, 2) := by decide +kernel
theorem dX4_map_49 : decode cX4_map 49 = .ok (.iload_n 1, 1) := by decide +kernel
theorem dX4_map_50 : decode cX4_map 50 = .ok (.imul, 1) := by decide +kernel
theorem dX4_map_51 : decode cX4_map 51 = .ok (.iload_n 3, 1) := by decide +kernel
theorem dX4_map_52 : decode cX4_map 52 = .ok (.iadd, 1) := by decide +kernel
theorem dX4_map_53 : decode cX4_map 53 = .ok (.istore 6, 2) := by decide +kernel
theorem dX4_map_55 : decode cX4_map 55 = .ok (.aload_n 0, 1) := by decide +kernel
theorem dX4_map_56 : decode cX4_map 56 = .ok (.iload 6, 2) := by decide +kernel
theorem dX4_map_58 : decode cX4_map 58 = .ok (.putfield 89, 3) := by decide +kernel
theorem dX4_map_61 : decode cX4_map 61 = .ok (.aload_n 0, 1) := by decide +kernel
theorem dX4_map_62 : decode cX4_map 62 = .ok (.iload 6, 2) := by decide +kernel
theorem dX4_map_64 : decode cX4_map 64 = .ok (.iload 4, 2) := by decide +kernel
theorem dX4_map_66 : decode cX4_map 66 = .ok (.iadd, 1) := by decide +kernel
theorem dX4_map_67 : decode cX4_map 67 = .ok (.invokevirtual 107, 3) := by decide +kernel
theorem dX4_map_70 : decode cX4_map 70 = .ok (.ifCond .ne 14, 3) := by decide +kernel
theorem dX4_map_73 : decode cX4_map 73 = .ok (.bipush (-100), 2) := by decide +kernel
theorem dX4_map_75 : decode cX4_map 75 = .ok (.aload_n 0, 1) := by decide +kernel
theorem dX4_map_76 : decode cX4_map 76 = .ok (.getfield 89, 3) := by decide +kernel
theorem dX4_map_79 : decode cX4_map 79 = .ok (.iload 6, 2) := by decide +kernel
theorem dX4_map_81 : decode cX4_map 81 = .ok (.isub, 1) := by decide +kernel
theorem dX4_map_82 : decode cX4_map 82 = .ok (.isub, 1) := by decide +kernel
theorem dX4_map_83 : decode cX4_map 83 = .ok (.ireturn, 1) := by decide +kernel
theorem dX4_map_84 : decode cX4_map 84 = .ok (.aload_n 0, 1) := by decide +kernel
theorem dX4_map_85 : decode cX4_map 85 = .ok (.aload_n 0, 1) := by decide +kernel
theorem dX4_map_86 : decode cX4_map 86 = .ok (.getfield 110, 3) := by decide +kernel
theorem dX4_map_89 : decode cX4_map 89 = .ok (.putfield 86, 3) := by decide +kernel
theorem dX4_map_92 : decode cX4_map 92 = .ok (.iconst 0, 1) := by decide +kernel
theorem dX4_map_93 : decode cX4_map 93 = .ok (.istore 7, 2) := by decide +kernel
theorem dX4_map_95 : decode cX4_map 95 = .ok (.iload 7, 2) := by decide +kernel
theorem dX4_map_97 : decode cX4_map 97 = .ok (.aload_n 0, 1) := by decide +kernel
theorem dX4_map_98 : decode cX4_map 98 = .ok (.getfield 86, 3) := by decide +kernel
theorem dX4_map_101 : decode cX4_map 101 = .ok (.if_icmp .ge 99, 3) := by decide +kernel
theorem dX4_map_104 : decode cX4_map 104 = .ok (.aload_n 0, 1) := by decide +kernel
theorem dX4_map_105 : decode cX4_map 105 = .ok (.getfield 19, 3) := by decide +kernel
theorem dX4_map_108 : decode cX4_map 108 = .ok (.iload 7, 2) := by decide +kernel
theorem dX4_map_110 : decode cX4_map 110 = .ok (.aload_n 0, 1) := by decide +kernel
theorem dX4_map_111 : decode cX4_map 111 = .ok (.getfield 34, 3) := by decide +kernel
theorem dX4_map_114 : decode cX4_map 114 = .ok (.iload 7, 2) := by decide +kernel
theorem dX4_map_116 : decode cX4_map 116 = .ok (.iaload, 1) := by decide +kernel
theorem dX4_map_117 : decode cX4_map 117 = .ok (.iastore, 1) := by decide +kernel
theorem dX4_map_118 : decode cX4_map 118 = .ok (.aload_n 0, 1) := by decide +kernel
theorem dX4_map_119 : decode cX4_map 119 = .ok (.getfield 22, 3) := by decide +kernel
theorem dX4_map_122 : decode cX4_map 122 = .ok (.iload 7, 2) := by decide +kernel
theorem dX4_map_124 : decode cX4_map 124 = .ok (.aload_n 0, 1) := by decide +kernel
theorem dX4_map_125 : decode cX4_map 125 = .ok (.getfield 37, 3) := by decide +kernel
theorem dX4_map_128 : decode cX4_map 128 = .ok (.iload 7, 2) := by decide +kernel
theorem dX4_map_130 : decode cX4_map 130 = .ok (.iaload, 1) := by decide +kernel
theorem dX4_map_131 : decode cX4_map 131 = .ok (.iastore, 1) := by decide +kernel
theorem dX4_map_132 : decode cX4_map 132 = .ok (.aload_n 0, 1) := by decide +kernel
theorem dX4_map_133 : decode cX4_map 133 = .ok (.getfield 25, 3) := by decide +kernel
theorem dX4_map_136 : decode cX4_map 136 = .ok (.iload 7, 2) := by decide +kernel
theorem dX4_map_138 : decode cX4_map 138 = .ok (.aload_n 0, 1) := by decide +kernel
theorem dX4_map_139 : decode cX4_map 139 = .ok (.getfield 40, 3) := by decide +kernel
theorem dX4_map_142 : decode cX4_map 142 = .ok (.iload 7, 2) := by decide +kernel
theorem dX4_map_144 : decode cX4_map 144 = .ok (.iaload, 1) := by decide +kernel
theorem dX4_map_145 : decode cX4_map 145 = .ok (.iastore, 1) := by decide +kernel
theorem dX4_map_146 : decode cX4_map 146 = .ok (.aload_n 0, 1) := by decide +kernel
theorem dX4_map_147 : decode cX4_map 147 = .ok (.getfield 28, 3) := by decide +kernel
theorem dX4_map_150 : decode cX4_map 150 = .ok (.iload 7, 2) := by decide +kernel
theorem dX4_map_152 : decode cX4_map 152 = .ok (.aload_n 0, 1) := by decide +kernel
theorem dX4_map_153 : decode cX4_map 153 = .ok (.getfield 43, 3) := by decide +kernel
theorem dX4_map_156 : decode cX4_map 156 = .ok (.iload 7, 2) := by decide +kernel
theorem dX4_map_158 : decode cX4_map 158 = .ok (.iaload, 1) := by decide +kernel
theorem dX4_map_159 : decode cX4_map 159 = .ok (.iastore, 1) := by decide +kernel
theorem dX4_map_160 : decode cX4_map 160 = .ok (.aload_n 0, 1) := by decide +kernel
theorem dX4_map_161 : decode cX4_map 161 = .ok (.getfield 31, 3) := by decide +kernel
theorem dX4_map_164 : decode cX4_map 164 = .ok (.iload 7, 2) := by decide +kernel
theorem dX4_map_166 : decode cX4_map 166 = .ok (.aload_n 0, 1) := by decide +kernel
theorem dX4_map_167 : decode cX4_map 167 = .ok (.getfield 46, 3) := by decide +kernel
theorem dX4_map_170 : decode cX4_map 170 = .ok (.iload 7, 2) := by decide +kernel
theorem dX4_map_172 : decode cX4_map 172 = .ok (.iaload, 1) := by decide +kernel
theorem dX4_map_173 : decode cX4_map 173 = .ok (.iastore, 1) := by decide +kernel
theorem dX4_map_174 : decode cX4_map 174 = .ok (.aload_n 0, 1) := by decide +kernel
theorem dX4_map_175 : decode cX4_map 175 = .ok (.getfield 31, 3) := by decide +kernel
theorem dX4_map_178 : decode cX4_map 178 = .ok (.bipush 6, 2) := by decide +kernel
theorem dX4_map_180 : decode cX4_map 180 = .ok (.iload 7, 2) := by decide +kernel
theorem dX4_map_182 : decode cX4_map 182 = .ok (.iadd, 1) := by decide +kernel
theorem dX4_map_183 : decode cX4_map 183 = .ok (.aload_n 0, 1) := by decide +kernel
theorem dX4_map_184 : decode cX4_map 184 = .ok (.getfield 46, 3) := by decide +kernel
theorem dX4_map_187 : decode cX4_map 187 = .ok (.bipush 6, 2) := by decide +kernel
theorem dX4_map_189 : decode cX4_map 189 = .ok (.iload 7, 2) := by decide +kernel
theorem dX4_map_191 : decode cX4_map 191 = .ok (.iadd, 1) := by decide +kernel
theorem dX4_map_192 : decode cX4_map 192 = .ok (.iaload, 1) := by decide +kernel
theorem dX4_map_193 : decode cX4_map 193 = .ok (.iastore, 1) := by decide +kernel
theorem dX4_map_194 : decode cX4_map 194 = .ok (.iinc 7 1, 3) := by decide +kernel
theorem dX4_map_197 : decode cX4_map 197 = .ok (.goto (-102), 3) := by decide +kernel
theorem dX4_map_200 : decode cX4_map 200 = .ok (.aload_n 0, 1) := by decide +kernel
theorem dX4_map_201 : decode cX4_map 201 = .ok (.iconst 0, 1) := by decide +kernel
theorem dX4_map_202 : decode cX4_map 202 = .ok (.putfield 113, 3) := by decide +kernel
theorem dX4_map_205 : decode cX4_map 205 = .ok (.aload_n 0, 1) := by decide +kernel
theorem dX4_map_206 : decode cX4_map 206 = .ok (.getfield 86, 3) := by decide +kernel
theorem dX4_map_209 : decode cX4_map 209 = .ok (.ireturn, 1) := by decide +kernel
theorem dX4_readAll_0 : decode cX4_readAll 0 = .ok (.aload_n 0, 1) := by decide +kernel
theorem dX4_readAll_1 : decode cX4_readAll 1 = .ok (.iconst 0, 1) := by decide +kernel
theorem dX4_readAll_2 : decode cX4_readAll 2 = .ok (.putfield 110, 3) := by decide +kernel
theorem dX4_readAll_5 : decode cX4_readAll 5 = .ok (.aload_n 0, 1) := by decide +kernel
theorem dX4_readAll_6 : decode cX4_readAll 6 = .ok (.iload_n 1, 1) := by decide +kernel
theorem dX4_readAll_7 : decode cX4_readAll 7 = .ok (.bipush 109, 2) := by decide +kernel
theorem dX4_readAll_9 : decode cX4_readAll 9 = .ok (.invokevirtual 116, 3) := by decide +kernel
theorem dX4_readAll_12 : decode cX4_readAll 12 = .ok (.ifCond .ne 5, 3) := by decide +kernel
theorem dX4_readAll_15 : decode cX4_readAll 15 = .ok (.iconst 0, 1) := by decide +kernel
theorem dX4_readAll_16 : decode cX4_readAll 16 = .ok (.ireturn, 1) := by decide +kernel
theorem dX4_readAll_17 : decode cX4_readAll 17 = .ok (.aload_n 0, 1) := by decide +kernel
theorem dX4_readAll_18 : decode cX4_readAll 18 = .ok (.getfield 110, 3) := by decide +kernel
theorem dX4_readAll_21 : decode cX4_readAll 21 = .ok (.ifCond .eq 34, 3) := by decide +kernel
theorem dX4_readAll_24 : decode cX4_readAll 24 = .ok (.aload_n 0, 1) := by decide +kernel
theorem dX4_readAll_25 : decode cX4_readAll 25 = .ok (.getfield 110, 3) := by decide +kernel
theorem dX4_readAll_28 : decode cX4_readAll 28 = .ok (.bipush 6, 2) := by decide +kernel
theorem dX4_readAll_30 : decode cX4_readAll 30 = .ok (.if_icmp .ge 45, 3) := by decide +kernel
theorem dX4_readAll_33 : decode cX4_readAll 33 = .ok (.aload_n 0, 1) := by decide +kernel
theorem dX4_readAll_34 : decode cX4_readAll 34 = .ok (.getfield 89, 3) := by decide +kernel
theorem dX4_readAll_37 : decode cX4_readAll 37 = .ok (.iload_n 1, 1) := by decide +kernel
theorem dX4_readAll_38 : decode cX4_readAll 38 = .ok (.if_icmp .ge 37, 3) := by decide +kernel
theorem dX4_readAll_41 : decode cX4_readAll 41 = .ok (.aload_n 0, 1) := by decide +kernel
theorem dX4_readAll_42 : decode cX4_readAll 42 = .ok (.getfield 16, 3) := by decide +kernel
theorem dX4_readAll_45 : decode cX4_readAll 45 = .ok (.aload_n 0, 1) := by decide +kernel
theorem dX4_readAll_46 : decode cX4_readAll 46 = .ok (.getfield 89, 3) := by decide +kernel
theorem dX4_readAll_49 : decode cX4_readAll 49 = .ok (.iaload, 1) := by decide +kernel
theorem dX4_readAll_50 : decode cX4_readAll 50 = .ok (.bipush 59, 2) := by decide +kernel
theorem dX4_readAll_52 : decode cX4_readAll 52 = .ok (.if_icmp .ne 23, 3) := by decide +kernel
theorem dX4_readAll_55 : decode cX4_readAll 55 = .ok (.aload_n 0, 1) := by decide +kernel
theorem dX4_readAll_56 : decode cX4_readAll 56 = .ok (.iload_n 1, 1) := by decide +kernel
theorem dX4_readAll_57 : decode cX4_readAll 57 = .ok (.bipush 59, 2) := by decide +kernel
theorem dX4_readAll_59 : decode cX4_readAll 59 = .ok (.invokevirtual 116, 3) := by decide +kernel
theorem dX4_readAll_62 : decode cX4_readAll 62 = .ok (.ifCond .eq 11, 3) := by decide +kernel
theorem dX4_readAll_65 : decode cX4_readAll 65 = .ok (.aload_n 0, 1) := by decide +kernel
theorem dX4_readAll_66 : decode cX4_readAll 66 = .ok (.iload_n 1, 1) := by decide +kernel
theorem dX4_readAll_67 : decode cX4_readAll 67 = .ok (.invokevirtual 120, 3) := by decide +kernel
theorem dX4_readAll_70 : decode cX4_readAll 70 = .ok (.ifCond .ne (-53), 3) := by decide +kernel
theorem dX4_readAll_73 : decode cX4_readAll 73 = .ok (.iconst 0, 1) := by decide +kernel
theorem dX4_readAll_74 : decode cX4_readAll 74 = .ok (.ireturn, 1) := by decide +kernel
theorem dX4_readAll_75 : decode cX4_readAll 75 = .ok (.aload_n 0, 1) := by decide +kernel
theorem dX4_readAll_76 : decode cX4_readAll 76 = .ok (.iload_n 1, 1) := by decide +kernel
theorem dX4_readAll_77 : decode cX4_readAll 77 = .ok (.iconst 0, 1) := by decide +kernel
theorem dX4_readAll_78 : decode cX4_readAll 78 = .ok (.invokevirtual 122, 3) := by decide +kernel
theorem dX4_readAll_81 : decode cX4_readAll 81 = .ok (.ifCond .eq 25, 3) := by decide +kernel
theorem dX4_readAll_84 : decode cX4_readAll 84 = .ok (.aload_n 0, 1) := by decide +kernel
theorem dX4_readAll_85 : decode cX4_readAll 85 = .ok (.iload_n 1, 1) := by decide +kernel
theorem dX4_readAll_86 : decode cX4_readAll 86 = .ok (.bipush 6, 2) := by decide +kernel
theorem dX4_readAll_88 : decode cX4_readAll 88 = .ok (.invokevirtual 122, 3) := by decide +kernel
theorem dX4_readAll_91 : decode cX4_readAll 91 = .ok (.ifCond .eq 15, 3) := by decide +kernel
theorem dX4_readAll_94 : decode cX4_readAll 94 = .ok (.aload_n 0, 1) := by decide +kernel
theorem dX4_readAll_95 : decode cX4_readAll 95 = .ok (.getfield 89, 3) := by decide +kernel
theorem dX4_readAll_98 : decode cX4_readAll 98 = .ok (.iload_n 1, 1) := by decide +kernel
theorem dX4_readAll_99 : decode cX4_readAll 99 = .ok (.if_icmp .ne 7, 3) := by decide +kernel
theorem dX4_readAll_102 : decode cX4_readAll 102 = .ok (.iconst 1, 1) := by decide +kernel
theorem dX4_readAll_103 : decode cX4_readAll 103 = .ok (.goto 4, 3) := by decide +kernel
theorem dX4_readAll_106 : decode cX4_readAll 106 = .ok (.iconst 0, 1) := by decide +kernel
theorem dX4_readAll_107 : decode cX4_readAll 107 = .ok (.ireturn, 1) := by decide +kernel
theorem dX4_readArea_0 : decode cX4_readArea 0 = .ok (.aload_n 0, 1) := by decide +kernel
theorem dX4_readArea_1 : decode cX4_readArea 1 = .ok (.getfield 89, 3) := by decide +kernel
theorem dX4_readArea_4 : decode cX4_readArea 4 = .ok (.iload_n 1, 1) := by decide +kernel
theorem dX4_readArea_5 : decode cX4_readArea 5 = .ok (.if_icmp .ge 15, 3) := by decide +kernel
theorem dX4_readArea_8 : decode cX4_readArea 8 = .ok (.aload_n 0, 1) := by decide +kernel
theorem dX4_readArea_9 : decode cX4_readArea 9 = .ok (.getfield 16, 3) := by decide +kernel
theorem dX4_readArea_12 : decode cX4_readArea 12 = .ok (.aload_n 0, 1) := by decide +kernel
theorem dX4_readArea_13 : decode cX4_readArea 13 = .ok (.getfield 89, 3) := by decide +kernel
theorem dX4_readArea_16 : decode cX4_readArea 16 = .ok (.iaload, 1) := by decide +kernel
theorem dX4_readArea_17 : decode cX4_readArea 17 = .ok (.goto 4, 3) := by decide +kernel
theorem dX4_readArea_20 : decode cX4_readArea 20 = .ok (.iconst 0, 1) := by decide +kernel
theorem dX4_readArea_21 : decode cX4_readArea 21 = .ok (.istore_n 2, 1) := by decide +kernel
theorem dX4_readArea_22 : decode cX4_readArea 22 = .ok (.aload_n 0, 1) := by decide +kernel
theorem dX4_readArea_23 : decode cX4_readArea 23 = .ok (.getfield 34, 3) := by decide +kernel
theorem dX4_readArea_26 : decode cX4_readArea 26 = .ok (.aload_n 0, 1) := by decide +kernel
theorem dX4_readArea_27 : decode cX4_readArea 27 = .ok (.getfield 110, 3) := by decide +kernel
theorem dX4_readArea_30 : decode cX4_readArea 30 = .ok (.iload_n 2, 1) := by decide +kernel
theorem dX4_readArea_31 : decode cX4_readArea 31 = .ok (.bipush 112, 2) := by decide +kernel
theorem dX4_readArea_33 : decode cX4_readArea 33 = .ok (.if_icmp .ne 7, 3) := by decide +kernel
theorem dX4_readArea_36 : decode cX4_readArea 36 = .ok (.iconst 0, 1) := by decide +kernel
theorem dX4_readArea_37 : decode cX4_readArea 37 = .ok (.goto 25, 3) := by decide +kernel
theorem dX4_readArea_40 : decode cX4_readArea 40 = .ok (.iload_n 2, 1) := by decide +kernel
theorem dX4_readArea_41 : decode cX4_readArea 41 = .ok (.bipush 98, 2) := by decide +kernel
theorem dX4_readArea_43 : decode cX4_readArea 43 = .ok (.if_icmp .ne 7, 3) := by decide +kernel
theorem dX4_readArea_46 : decode cX4_readArea 46 = .ok (.iconst 1, 1) := by decide +kernel
theorem dX4_readArea_47 : decode cX4_readArea 47 = .ok (.goto 15, 3) := by decide +kernel
theorem dX4_readArea_50 : decode cX4_readArea 50 = .ok (.iload_n 2, 1) := by decide +kernel
theorem dX4_readArea_51 : decode cX4_readArea 51 = .ok (.bipush 100, 2) := by decide +kernel
theorem dX4_readArea_53 : decode cX4_readArea 53 = .ok (.if_icmp .ne 7, 3) := by decide +kernel
theorem dX4_readArea_56 : decode cX4_readArea 56 = .ok (.iconst 2, 1) := by decide +kernel
theorem dX4_readArea_57 : decode cX4_readArea 57 = .ok (.goto 5, 3) := by decide +kernel
theorem dX4_readArea_60 : decode cX4_readArea 60 = .ok (.bipush (-9), 2) := by decide +kernel
theorem dX4_readArea_62 : decode cX4_readArea 62 = .ok (.iastore, 1) := by decide +kernel
theorem dX4_readArea_63 : decode cX4_readArea 63 = .ok (.aload_n 0, 1) := by decide +kernel
theorem dX4_readArea_64 : decode cX4_readArea 64 = .ok (.getfield 34, 3) := by decide +kernel
theorem dX4_readArea_67 : decode cX4_readArea 67 = .ok (.aload_n 0, 1) := by decide +kernel
theorem dX4_readArea_68 : decode cX4_readArea 68 = .ok (.getfield 110, 3) := by decide +kernel
theorem dX4_readArea_71 : decode cX4_readArea 71 = .ok (.iaload, 1) := by decide +kernel
theorem dX4_readArea_72 : decode cX4_readArea 72 = .ok (.bipush (-9), 2) := by decide +kernel
theorem dX4_readArea_74 : decode cX4_readArea 74 = .ok (.if_icmp .ne 5, 3) := by decide +kernel
theorem dX4_readArea_77 : decode cX4_readArea 77 = .ok (.iconst 0, 1) := by decide +kernel
theorem dX4_readArea_78 : decode cX4_readArea 78 = .ok (.ireturn, 1) := by decide +kernel
theorem dX4_readArea_79 : decode cX4_readArea 79 = .ok (.aload_n 0, 1) := by decide +kernel
theorem dX4_readArea_80 : decode cX4_readArea 80 = .ok (.dup, 1) := by decide +kernel
theorem dX4_readArea_81 : decode cX4_readArea 81 = .ok (.getfield 89, 3) := by decide +kernel
theorem dX4_readArea_84 : decode cX4_readArea 84 = .ok (.iconst 1, 1) := by decide +kernel
theorem dX4_readArea_85 : decode cX4_readArea 85 = .ok (.iadd, 1) := by decide +kernel
theorem dX4_readArea_86 : decode cX4_readArea 86 = .ok (.putfield 89, 3) := by decide +kernel
theorem dX4_readArea_89 : decode cX4_readArea 89 = .ok (.aload_n 0, 1) := by decide +kernel
theorem dX4_readArea_90 : decode cX4_readArea 90 = .ok (.getfield 37, 3) := by decide +kernel
theorem dX4_readArea_93 : decode cX4_readArea 93 = .ok (.aload_n 0, 1) := by decide +kernel
theorem dX4_readArea_94 : decode cX4_readArea 94 = .ok (.getfield 110, 3) := by decide +kernel
theorem dX4_readArea_97 : decode cX4_readArea 97 = .ok (.aload_n 0, 1) := by decide +kernel
theorem dX4_readArea_98 : decode cX4_readArea 98 = .ok (.iload_n 1, 1) := by decide +kernel
theorem dX4_readArea_99 : decode cX4_readArea 99 = .ok (.iconst 1, 1) := by decide +kernel
theorem dX4_readArea_100 : decode cX4_readArea 100 = .ok (.bipush 9, 2) := by decide +kernel
theorem dX4_readArea_102 : decode cX4_readArea 102 = .ok (.invokevirtual 125, 3) := by decide +kernel
theorem dX4_readArea_105 : decode cX4_readArea 105 = .ok (.iastore, 1) := by decide +kernel
theorem dX4_readArea_106 : decode cX4_readArea 106 = .ok (.aload_n 0, 1) := by decide +kernel
theorem dX4_readArea_107 : decode cX4_readArea 107 = .ok (.getfield 37, 3) := by decide +kernel
theorem dX4_readArea_110 : decode cX4_readArea 110 = .ok (.aload_n 0, 1) := by decide +kernel
theorem dX4_readArea_111 : decode cX4_readArea 111 = .ok (.getfield 110, 3) := by decide +kernel
theorem dX4_readArea_114 : decode cX4_readArea 114 = .ok (.iaload, 1) := by decide +kernel
theorem dX4_readArea_115 : decode cX4_readArea 115 = .ok (.bipush (-9), 2) := by decide +kernel
theorem dX4_readArea_117 : decode cX4_readArea 117 = .ok (.if_icmp .ne 5, 3) := by decide +kernel
theorem dX4_readArea_120 : decode cX4_readArea 120 = .ok (.iconst 0, 1) := by decide +kernel
theorem dX4_readArea_121 : decode cX4_readArea 121 = .ok (.ireturn, 1) := by decide +kernel
theorem dX4_readArea_122 : decode cX4_readArea 122 = .ok (.aload_n 0, 1) := by decide +kernel
theorem dX4_readArea_123 : decode cX4_readArea 123 = .ok (.getfield 40, 3) := by decide +kernel
theorem dX4_readArea_126 : decode cX4_readArea 126 = .ok (.aload_n 0, 1) := by decide +kernel
theorem dX4_readArea_127 : decode cX4_readArea 127 = .ok (.getfield 110, 3) := by decide +kernel
theorem dX4_readArea_130 : decode cX4_readArea 130 = .ok (.aload_n 0, 1) := by decide +kernel
theorem dX4_readArea_131 : decode cX4_readArea 131 = .ok (.iload_n 1, 1) := by decide +kernel
theorem dX4_readArea_132 : decode cX4_readArea 132 = .ok (.iconst 1, 1) := by decide +kernel
theorem dX4_readArea_133 : decode cX4_readArea 133 = .ok (.bipush 9, 2) := by decide +kernel
theorem dX4_readArea_135 : decode cX4_readArea 135 = .ok (.invokevirtual 125, 3) := by decide +kernel
theorem dX4_readArea_138 : decode cX4_readArea 138 = .ok (.iastore, 1) := by decide +kernel
theorem dX4_readArea_139 : decode cX4_readArea 139 = .ok (.aload_n 0, 1) := by decide +kernel
theorem dX4_readArea_140 : decode cX4_readArea 140 = .ok (.getfield 40, 3) := by decide +kernel
theorem dX4_readArea_143 : decode cX4_readArea 143 = .ok (.aload_n 0, 1) := by decide +kernel
theorem dX4_readArea_144 : decode cX4_readArea 144 = .ok (.getfield 110, 3) := by decide +kernel
theorem dX4_readArea_147 : decode cX4_readArea 147 = .ok (.iaload, 1) := by decide +kernel
theorem dX4_readArea_148 : decode cX4_readArea 148 = .ok (.bipush (-9), 2) := by decide +kernel
theorem dX4_readArea_150 : decode cX4_readArea 150 = .ok (.if_icmp .ne 5, 3) := by decide +kernel
theorem dX4_readArea_153 : decode cX4_readArea 153 = .ok (.iconst 0, 1) := by decide +kernel
theorem dX4_readArea_154 : decode cX4_readArea 154 = .ok (.ireturn, 1) := by decide +kernel
theorem dX4_readArea_155 : decode cX4_readArea 155 = .ok (.aload_n 0, 1) := by decide +kernel
theorem dX4_readArea_156 : decode cX4_readArea 156 = .ok (.dup, 1) := by decide +kernel
theorem dX4_readArea_157 : decode cX4_readArea 157 = .ok (.getfield 129, 3) := by decide +kernel
theorem dX4_readArea_160 : decode cX4_readArea 160 = .ok (.iconst 1, 1) := by decide +kernel
theorem dX4_readArea_161 : decode cX4_readArea 161 = .ok (.iadd, 1) := by decide +kernel
theorem dX4_readArea_162 : decode cX4_readArea 162 = .ok (.putfield 129, 3) := by decide +kernel
theorem dX4_readArea_165 : decode cX4_readArea 165 = .ok (.aload_n 0, 1) := by decide +kernel
theorem dX4_readArea_166 : decode cX4_readArea 166 = .ok (.getfield 43, 3) := by decide +kernel
theorem dX4_readArea_169 : decode cX4_readArea 169 = .ok (.aload_n 0, 1) := by decide +kernel
theorem dX4_readArea_170 : decode cX4_readArea 170 = .ok (.getfield 110, 3) := by decide +kernel
theorem dX4_readArea_173 : decode cX4_readArea 173 = .ok (.aload_n 0, 1) := by decide +kernel
theorem dX4_readArea_174 : decode cX4_readArea 174 = .ok (.getfield 129, 3) := by decide +kernel
theorem dX4_readArea_177 : decode cX4_readArea 177 = .ok (.iastore, 1) := by decide +kernel
theorem dX4_readArea_178 : decode cX4_readArea 178 = .ok (.aload_n 0, 1) := by decide +kernel
theorem dX4_readArea_179 : decode cX4_readArea 179 = .ok (.dup, 1) := by decide +kernel
theorem dX4_readArea_180 : decode cX4_readArea 180 = .ok (.getfield 110, 3) := by decide +kernel
theorem dX4_readArea_183 : decode cX4_readArea 183 = .ok (.iconst 1, 1) := by decide +kernel
theorem dX4_readArea_184 : decode cX4_readArea 184 = .ok (.iadd, 1) := by decide +kernel
theorem dX4_readArea_185 : decode cX4_readArea 185 = .ok (.putfield 110, 3) := by decide +kernel
theorem dX4_readArea_188 : decode cX4_readArea 188 = .ok (.iconst 1, 1) := by decide +kernel
theorem dX4_readArea_189 : decode cX4_readArea 189 = .ok (.ireturn, 1) := by decide +kernel
theorem dX4_readOrderNext_0 : decode cX4_readOrderNext 0 = .ok (.aload_n 0, 1) := by decide +kernel
theorem dX4_readOrderNext_1 : decode cX4_readOrderNext 1 = .ok (.iload_n 1, 1) := by decide +kernel
theorem dX4_readOrderNext_2 : decode cX4_readOrderNext 2 = .ok (.bipush 44, 2) := by decide +kernel
theorem dX4_readOrderNext_4 : decode cX4_readOrderNext 4 = .ok (.invokevirtual 116, 3) := by decide +kernel
theorem dX4_readOrderNext_7 : decode cX4_readOrderNext 7 = .ok (.ifCond .ne 5, 3) := by decide +kernel
theorem dX4_readOrderNext_10 : decode cX4_readOrderNext 10 = .ok (.iconst 0, 1) := by decide +kernel
theorem dX4_readOrderNext_11 : decode cX4_readOrderNext 11 = .ok (.ireturn, 1) := by decide +kernel
theorem dX4_readOrderNext_12 : decode cX4_readOrderNext 12 = .ok (.iconst 0, 1) := by decide +kernel
theorem dX4_readOrderNext_13 : decode cX4_readOrderNext 13 = .ok (.istore_n 3, 1) := by decide +kernel
theorem dX4_readOrderNext_14 : decode cX4_readOrderNext 14 = .ok (.iconst 0, 1) := by decide +kernel
theorem dX4_readOrderNext_15 : decode cX4_readOrderNext 15 = .ok (.istore 4, 2) := by decide +kernel
theorem dX4_readOrderNext_17 : decode cX4_readOrderNext 17 = .ok (.iload 4, 2) := by decide +kernel
theorem dX4_readOrderNext_19 : decode cX4_readOrderNext 19 = .ok (.aload_n 0, 1) := by decide +kernel
theorem dX4_readOrderNext_20 : decode cX4_readOrderNext 20 = .ok (.getfield 110, 3) := by decide +kernel
theorem dX4_readOrderNext_23 : decode cX4_readOrderNext 23 = .ok (.if_icmp .ge 91, 3) := by decide +kernel
theorem dX4_readOrderNext_26 : decode cX4_readOrderNext 26 = .ok (.aload_n 0, 1) := by decide +kernel
theorem dX4_readOrderNext_27 : decode cX4_readOrderNext 27 = .ok (.getfield 89, 3) := by decide +kernel
theorem dX4_readOrderNext_30 : decode cX4_readOrderNext 30 = .ok (.iload_n 1, 1) := by decide +kernel
theorem dX4_readOrderNext_31 : decode cX4_readOrderNext 31 = .ok (.if_icmp .ge 18, 3) := by decide +kernel
theorem dX4_readOrderNext_34 : decode cX4_readOrderNext 34 = .ok (.aload_n 0, 1) := by decide +kernel
theorem dX4_readOrderNext_35 : decode cX4_readOrderNext 35 = .ok (.getfield 16, 3) := by decide +kernel
theorem dX4_readOrderNext_38 : decode cX4_readOrderNext 38 = .ok (.aload_n 0, 1) := by decide +kernel
theorem dX4_readOrderNext_39 : decode cX4_readOrderNext 39 = .ok (.getfield 89, 3) := by decide +kernel
theorem dX4_readOrderNext_42 : decode cX4_readOrderNext 42 = .ok (.iaload, 1) := by decide +kernel
theorem dX4_readOrderNext_43 : decode cX4_readOrderNext 43 = .ok (.bipush 48, 2) := by decide +kernel
theorem dX4_readOrderNext_45 : decode cX4_readOrderNext 45 = .ok (.isub, 1) := by decide +kernel
theorem dX4_readOrderNext_46 : decode cX4_readOrderNext 46 = .ok (.goto 5, 3) := by decide +kernel
theorem dX4_readOrderNext_49 : decode cX4_readOrderNext 49 = .ok (.bipush (-9), 2) := by decide +kernel
theorem dX4_readOrderNext_51 : decode cX4_readOrderNext 51 = .ok (.istore 5, 2) := by decide +kernel
theorem dX4_readOrderNext_53 : decode cX4_readOrderNext 53 = .ok (.iload 5, 2) := by decide +kernel
theorem dX4_readOrderNext_55 : decode cX4_readOrderNext 55 = .ok (.iconst 0, 1) := by decide +kernel
theorem dX4_readOrderNext_56 : decode cX4_readOrderNext 56 = .ok (.aload_n 0, 1) := by decide +kernel
theorem dX4_readOrderNext_57 : decode cX4_readOrderNext 57 = .ok (.getfield 110, 3) := by decide +kernel
theorem dX4_readOrderNext_60 : decode cX4_readOrderNext 60 = .ok (.iconst 1, 1) := by decide +kernel
theorem dX4_readOrderNext_61 : decode cX4_readOrderNext 61 = .ok (.isub, 1) := by decide +kernel
theorem dX4_readOrderNext_62 : decode cX4_readOrderNext 62 = .ok (.invokestatic 82, 3) := by decide +kernel
theorem dX4_readOrderNext_65 : decode cX4_readOrderNext 65 = .ok (.ifCond .eq 13, 3) := by decide +kernel
theorem dX4_readOrderNext_68 : decode cX4_readOrderNext 68 = .ok (.iload_n 3, 1) := by decide +kernel
theorem dX4_readOrderNext_69 : decode cX4_readOrderNext 69 = .ok (.iload 5, 2) := by decide +kernel
theorem dX4_readOrderNext_71 : decode cX4_readOrderNext 71 = .ok (.ishr, 1) := by decide +kernel
theorem dX4_readOrderNext_72 : decode cX4_readOrderNext 72 = .ok (.iconst 1, 1) := by decide +kernel
theorem dX4_readOrderNext_73 : decode cX4_readOrderNext 73 = .ok (.iand, 1) := by decide +kernel
theorem dX4_readOrderNext_74 : decode cX4_readOrderNext 74 = .ok (.iconst 1, 1) := by decide +kernel
theorem dX4_readOrderNext_75 : decode cX4_readOrderNext 75 = .ok (.if_icmp .ne 5, 3) := by decide +kernel
theorem dX4_readOrderNext_78 : decode cX4_readOrderNext 78 = .ok (.iconst 0, 1) := by decide +kernel
theorem dX4_readOrderNext_79 : decode cX4_readOrderNext 79 = .ok (.ireturn, 1) := by decide +kernel
theorem dX4_readOrderNext_80 : decode cX4_readOrderNext 80 = .ok (.iload_n 3, 1) := by decide +kernel
theorem dX4_readOrderNext_81 : decode cX4_readOrderNext 81 = .ok (.iconst 1, 1) := by decide +kernel
theorem dX4_readOrderNext_82 : decode cX4_readOrderNext 82 = .ok (.iload 5, 2) := by decide +kernel
theorem dX4_readOrderNext_84 : decode cX4_readOrderNext 84 = .ok (.ishl, 1) := by decide +kernel
theorem dX4_readOrderNext_85 : decode cX4_readOrderNext 85 = .ok (.ior, 1) := by decide +kernel
theorem dX4_readOrderNext_86 : decode cX4_readOrderNext 86 = .ok (.istore_n 3, 1) := by decide +kernel
theorem dX4_readOrderNext_87 : decode cX4_readOrderNext 87 = .ok (.aload_n 0, 1) := by decide +kernel
theorem dX4_readOrderNext_88 : decode cX4_readOrderNext 88 = .ok (.getfield 46, 3) := by decide +kernel
theorem dX4_readOrderNext_91 : decode cX4_readOrderNext 91 = .ok (.iload_n 2, 1) := by decide +kernel
theorem dX4_readOrderNext_92 : decode cX4_readOrderNext 92 = .ok (.iload 4, 2) := by decide +kernel
theorem dX4_readOrderNext_94 : decode cX4_readOrderNext 94 = .ok (.iadd, 1) := by decide +kernel
theorem dX4_readOrderNext_95 : decode cX4_readOrderNext 95 = .ok (.iload 5, 2) := by decide +kernel
theorem dX4_readOrderNext_97 : decode cX4_readOrderNext 97 = .ok (.iastore, 1) := by decide +kernel
theorem dX4_readOrderNext_98 : decode cX4_readOrderNext 98 = .ok (.aload_n 0, 1) := by decide +kernel
theorem dX4_readOrderNext_99 : decode cX4_readOrderNext 99 = .ok (.dup, 1) := by decide +kernel
theorem dX4_readOrderNext_100 : decode cX4_readOrderNext 100 = .ok (.getfield 89, 3) := by decide +kernel
theorem dX4_readOrderNext_103 : decode cX4_readOrderNext 103 = .ok (.iconst 1, 1) := by decide +kernel
theorem dX4_readOrderNext_104 : decode cX4_readOrderNext 104 = .ok (.iadd, 1) := by decide +kernel
theorem dX4_readOrderNext_105 : decode cX4_readOrderNext 105 = .ok (.putfield 89, 3) := by decide +kernel
theorem dX4_readOrderNext_108 : decode cX4_readOrderNext 108 = .ok (.iinc 4 1, 3) := by decide +kernel
theorem dX4_readOrderNext_111 : decode cX4_readOrderNext 111 = .ok (.goto (-94), 3) := by decide +kernel
theorem dX4_readOrderNext_114 : decode cX4_readOrderNext 114 = .ok (.iconst 1, 1) := by decide +kernel
theorem dX4_readOrderNext_115 : decode cX4_readOrderNext 115 = .ok (.ireturn, 1) := by decide +kernel
theorem dX4_heightOf_0 : decode cX4_heightOf 0 = .ok (.aload_n 0, 1) := by decide +kernel
theorem dX4_heightOf_1 : decode cX4_heightOf 1 = .ok (.getfield 19, 3) := by decide +kernel
theorem dX4_heightOf_4 : decode cX4_heightOf 4 = .ok (.iload_n 1, 1) := by decide +kernel
theorem dX4_heightOf_5 : decode cX4_heightOf 5 = .ok (.iaload, 1) := by decide +kernel
theorem dX4_heightOf_6 : decode cX4_heightOf 6 = .ok (.ifCond .ne 12, 3) := by decide +kernel
theorem dX4_heightOf_9 : decode cX4_heightOf 9 = .ok (.aload_n 0, 1) := by decide +kernel
theorem dX4_heightOf_10 : decode cX4_heightOf 10 = .ok (.getfield 22, 3) := by decide +kernel
theorem dX4_heightOf_13 : decode cX4_heightOf 13 = .ok (.iload_n 1, 1) := by decide +kernel
theorem dX4_heightOf_14 : decode cX4_heightOf 14 = .ok (.iaload, 1) := by decide +kernel
theorem dX4_heightOf_15 : decode cX4_heightOf 15 = .ok (.goto 32, 3) := by decide +kernel
theorem dX4_heightOf_18 : decode cX4_heightOf 18 = .ok (.aload_n 0, 1) := by decide +kernel
theorem dX4_heightOf_19 : decode cX4_heightOf 19 = .ok (.getfield 19, 3) := by decide +kernel
theorem dX4_heightOf_22 : decode cX4_heightOf 22 = .ok (.iload_n 1, 1) := by decide +kernel
theorem dX4_heightOf_23 : decode cX4_heightOf 23 = .ok (.iaload, 1) := by decide +kernel
theorem dX4_heightOf_24 : decode cX4_heightOf 24 = .ok (.iconst 1, 1) := by decide +kernel
theorem dX4_heightOf_25 : decode cX4_heightOf 25 = .ok (.if_icmp .ne 14, 3) := by decide +kernel
theorem dX4_heightOf_28 : decode cX4_heightOf 28 = .ok (.aload_n 0, 1) := by decide +kernel
theorem dX4_heightOf_29 : decode cX4_heightOf 29 = .ok (.getfield 22, 3) := by decide +kernel
theorem dX4_heightOf_32 : decode cX4_heightOf 32 = .ok (.iload_n 1, 1) := by decide +kernel
theorem dX4_heightOf_33 : decode cX4_heightOf 33 = .ok (.iaload, 1) := by decide +kernel
theorem dX4_heightOf_34 : decode cX4_heightOf 34 = .ok (.iconst 1, 1) := by decide +kernel
theorem dX4_heightOf_35 : decode cX4_heightOf 35 = .ok (.iadd, 1) := by decide +kernel
theorem dX4_heightOf_36 : decode cX4_heightOf 36 = .ok (.goto 11, 3) := by decide +kernel
theorem dX4_heightOf_39 : decode cX4_heightOf 39 = .ok (.iconst 2, 1) := by decide +kernel
theorem dX4_heightOf_40 : decode cX4_heightOf 40 = .ok (.aload_n 0, 1) := by decide +kernel
theorem dX4_heightOf_41 : decode cX4_heightOf 41 = .ok (.getfield 22, 3) := by decide +kernel
theorem dX4_heightOf_44 : decode cX4_heightOf 44 = .ok (.iload_n 1, 1) := by decide +kernel
theorem dX4_heightOf_45 : decode cX4_heightOf 45 = .ok (.iaload, 1) := by decide +kernel
theorem dX4_heightOf_46 : decode cX4_heightOf 46 = .ok (.imul, 1) := by decide +kernel
theorem dX4_heightOf_47 : decode cX4_heightOf 47 = .ok (.istore_n 2, 1) := by decide +kernel
theorem dX4_heightOf_48 : decode cX4_heightOf 48 = .ok (.iload_n 2, 1) := by decide +kernel
theorem dX4_heightOf_49 : decode cX4_heightOf 49 = .ok (.aload_n 0, 1) := by decide +kernel
theorem dX4_heightOf_50 : decode cX4_heightOf 50 = .ok (.getfield 25, 3) := by decide +kernel
theorem dX4_heightOf_53 : decode cX4_heightOf 53 = .ok (.iload_n 1, 1) := by decide +kernel
theorem dX4_heightOf_54 : decode cX4_heightOf 54 = .ok (.iaload, 1) := by decide +kernel
theorem dX4_heightOf_55 : decode cX4_heightOf 55 = .ok (.iadd, 1) := by decide +kernel
theorem dX4_heightOf_56 : decode cX4_heightOf 56 = .ok (.iconst 1, 1) := by decide +kernel
theorem dX4_heightOf_57 : decode cX4_heightOf 57 = .ok (.isub, 1) := by decide +kernel
theorem dX4_heightOf_58 : decode cX4_heightOf 58 = .ok (.aload_n 0, 1) := by decide +kernel
theorem dX4_heightOf_59 : decode cX4_heightOf 59 = .ok (.getfield 25, 3) := by decide +kernel
theorem dX4_heightOf_62 : decode cX4_heightOf 62 = .ok (.iload_n 1, 1) := by decide +kernel
theorem dX4_heightOf_63 : decode cX4_heightOf 63 = .ok (.iaload, 1) := by decide +kernel
theorem dX4_heightOf_64 : decode cX4_heightOf 64 = .ok (.idiv, 1) := by decide +kernel
theorem dX4_heightOf_65 : decode cX4_heightOf 65 = .ok (.ireturn, 1) := by decide +kernel
theorem dX4_placeIn_0 : decode cX4_placeIn 0 = .ok (.iconst 0, 1) := by decide +kernel
theorem dX4_placeIn_1 : decode cX4_placeIn 1 = .ok (.istore_n 3, 1) := by decide +kernel
theorem dX4_placeIn_2 : decode cX4_placeIn 2 = .ok (.aload_n 0, 1) := by decide +kernel
theorem dX4_placeIn_3 : decode cX4_placeIn 3 = .ok (.getfield 31, 3) := by decide +kernel
theorem dX4_placeIn_6 : decode cX4_placeIn 6 = .ok (.iload_n 1, 1) := by decide +kernel
theorem dX4_placeIn_7 : decode cX4_placeIn 7 = .ok (.iload_n 3, 1) := by decide +kernel
theorem dX4_placeIn_8 : decode cX4_placeIn 8 = .ok (.iadd, 1) := by decide +kernel
theorem dX4_placeIn_9 : decode cX4_placeIn 9 = .ok (.iaload, 1) := by decide +kernel
theorem dX4_placeIn_10 : decode cX4_placeIn 10 = .ok (.iload_n 2, 1) := by decide +kernel
theorem dX4_placeIn_11 : decode cX4_placeIn 11 = .ok (.if_icmp .eq 9, 3) := by decide +kernel
theorem dX4_placeIn_14 : decode cX4_placeIn 14 = .ok (.iinc 3 1, 3) := by decide +kernel
theorem dX4_placeIn_17 : decode cX4_placeIn 17 = .ok (.goto (-15), 3) := by decide +kernel
theorem dX4_placeIn_20 : decode cX4_placeIn 20 = .ok (.iload_n 3, 1) := by decide +kernel
theorem dX4_placeIn_21 : decode cX4_placeIn 21 = .ok (.ireturn, 1) := by decide +kernel
theorem dX4_isLeft_0 : decode cX4_isLeft 0 = .ok (.iload_n 1, 1) := by decide +kernel
theorem dX4_isLeft_1 : decode cX4_isLeft 1 = .ok (.iload_n 2, 1) := by decide +kernel
theorem dX4_isLeft_2 : decode cX4_isLeft 2 = .ok (.if_icmp .eq 39, 3) := by decide +kernel
theorem dX4_isLeft_5 : decode cX4_isLeft 5 = .ok (.aload_n 0, 1) := by decide +kernel
theorem dX4_isLeft_6 : decode cX4_isLeft 6 = .ok (.iconst 0, 1) := by decide +kernel
theorem dX4_isLeft_7 : decode cX4_isLeft 7 = .ok (.iload_n 1, 1) := by decide +kernel
theorem dX4_isLeft_8 : decode cX4_isLeft 8 = .ok (.invokevirtual 132, 3) := by decide +kernel
theorem dX4_isLeft_11 : decode cX4_isLeft 11 = .ok (.aload_n 0, 1) := by decide +kernel
theorem dX4_isLeft_12 : decode cX4_isLeft 12 = .ok (.iconst 0, 1) := by decide +kernel
theorem dX4_isLeft_13 : decode cX4_isLeft 13 = .ok (.iload_n 2, 1) := by decide +kernel
theorem dX4_isLeft_14 : decode cX4_isLeft 14 = .ok (.invokevirtual 132, 3) := by decide +kernel
theorem dX4_isLeft_17 : decode cX4_isLeft 17 = .ok (.if_icmp .ge 24, 3) := by decide +kernel
theorem dX4_isLeft_20 : decode cX4_isLeft 20 = .ok (.aload_n 0, 1) := by decide +kernel
theorem dX4_isLeft_21 : decode cX4_isLeft 21 = .ok (.bipush 6, 2) := by decide +kernel
theorem dX4_isLeft_23 : decode cX4_isLeft 23 = .ok (.iload_n 1, 1) := by decide +kernel
theorem dX4_isLeft_24 : decode cX4_isLeft 24 = .ok (.invokevirtual 132, 3) := by decide +kernel
theorem dX4_isLeft_27 : decode cX4_isLeft 27 = .ok (.aload_n 0, 1) := by decide +kernel
theorem dX4_isLeft_28 : decode cX4_isLeft 28 = .ok (.bipush 6, 2) := by decide +kernel
theorem dX4_isLeft_30 : decode cX4_isLeft 30 = .ok (.iload_n 2, 1) := by decide +kernel
theorem dX4_isLeft_31 : decode cX4_isLeft 31 = .ok (.invokevirtual 132, 3) := by decide +kernel
theorem dX4_isLeft_34 : decode cX4_isLeft 34 = .ok (.if_icmp .ge 7, 3) := by decide +kernel
theorem dX4_isLeft_37 : decode cX4_isLeft 37 = .ok (.iconst 1, 1) := by decide +kernel
theorem dX4_isLeft_38 : decode cX4_isLeft 38 = .ok (.goto 4, 3) := by decide +kernel
theorem dX4_isLeft_41 : decode cX4_isLeft 41 = .ok (.iconst 0, 1) := by decide +kernel
theorem dX4_isLeft_42 : decode cX4_isLeft 42 = .ok (.ireturn, 1) := by decide +kernel
theorem dX4_isAbove_0 : decode cX4_isAbove 0 = .ok (.aload_n 0, 1) := by decide +kernel
theorem dX4_isAbove_1 : decode cX4_isAbove 1 = .ok (.iconst 0, 1) := by decide +kernel
theorem dX4_isAbove_2 : decode cX4_isAbove 2 = .ok (.iload_n 1, 1) := by decide +kernel
theorem dX4_isAbove_3 : decode cX4_isAbove 3 = .ok (.invokevirtual 132, 3) := by decide +kernel
theorem dX4_isAbove_6 : decode cX4_isAbove 6 = .ok (.aload_n 0, 1) := by decide +kernel
theorem dX4_isAbove_7 : decode cX4_isAbove 7 = .ok (.iconst 0, 1) := by decide +kernel
theorem dX4_isAbove_8 : decode cX4_isAbove 8 = .ok (.iload_n 2, 1) := by decide +kernel
theorem dX4_isAbove_9 : decode cX4_isAbove 9 = .ok (.invokevirtual 132, 3) := by decide +kernel
theorem dX4_isAbove_12 : decode cX4_isAbove 12 = .ok (.if_icmp .ge 24, 3) := by decide +kernel
theorem dX4_isAbove_15 : decode cX4_isAbove 15 = .ok (.aload_n 0, 1) := by decide +kernel
theorem dX4_isAbove_16 : decode cX4_isAbove 16 = .ok (.bipush 6, 2) := by decide +kernel
theorem dX4_isAbove_18 : decode cX4_isAbove 18 = .ok (.iload_n 1, 1) := by decide +kernel
theorem dX4_isAbove_19 : decode cX4_isAbove 19 = .ok (.invokevirtual 132, 3) := by decide +kernel
theorem dX4_isAbove_22 : decode cX4_isAbove 22 = .ok (.aload_n 0, 1) := by decide +kernel
theorem dX4_isAbove_23 : decode cX4_isAbove 23 = .ok (.bipush 6, 2) := by decide +kernel
theorem dX4_isAbove_25 : decode cX4_isAbove 25 = .ok (.iload_n 2, 1) := by decide +kernel
theorem dX4_isAbove_26 : decode cX4_isAbove 26 = .ok (.invokevirtual 132, 3) := by decide +kernel
theorem dX4_isAbove_29 : decode cX4_isAbove 29 = .ok (.if_icmp .le 7, 3) := by decide +kernel
theorem dX4_isAbove_32 : decode cX4_isAbove 32 = .ok (.iconst 1, 1) := by decide +kernel
theorem dX4_isAbove_33 : decode cX4_isAbove 33 = .ok (.goto 4, 3) := by decide +kernel
theorem dX4_isAbove_36 : decode cX4_isAbove 36 = .ok (.iconst 0, 1) := by decide +kernel
theorem dX4_isAbove_37 : decode cX4_isAbove 37 = .ok (.ireturn, 1) := by decide +kernel
theorem dX4_findBreadth_0 : decode cX4_findBreadth 0 = .ok (.aload_n 0, 1) := by decide +kernel
theorem dX4_findBreadth_1 : decode cX4_findBreadth 1 = .ok (.iconst 0, 1) := by decide +kernel
theorem dX4_findBreadth_2 : decode cX4_findBreadth 2 = .ok (.putfield 136, 3) := by decide +kernel
theorem dX4_findBreadth_5 : decode cX4_findBreadth 5 = .ok (.iconst 0, 1) := by decide +kernel
theorem dX4_findBreadth_6 : decode cX4_findBreadth 6 = .ok (.istore_n 1, 1) := by decide +kernel
theorem dX4_findBreadth_7 : decode cX4_findBreadth 7 = .ok (.iload_n 1, 1) := by decide +kernel
theorem dX4_findBreadth_8 : decode cX4_findBreadth 8 = .ok (.aload_n 0, 1) := by decide +kernel
theorem dX4_findBreadth_9 : decode cX4_findBreadth 9 = .ok (.getfield 86, 3) := by decide +kernel
theorem dX4_findBreadth_12 : decode cX4_findBreadth 12 = .ok (.if_icmp .ge 158, 3) := by decide +kernel
theorem dX4_findBreadth_15 : decode cX4_findBreadth 15 = .ok (.aload_n 0, 1) := by decide +kernel
theorem dX4_findBreadth_16 : decode cX4_findBreadth 16 = .ok (.getfield 31, 3) := by decide +kernel
theorem dX4_findBreadth_19 : decode cX4_findBreadth 19 = .ok (.iload_n 1, 1) := by decide +kernel
theorem dX4_findBreadth_20 : decode cX4_findBreadth 20 = .ok (.iaload, 1) := by decide +kernel
theorem dX4_findBreadth_21 : decode cX4_findBreadth 21 = .ok (.istore_n 2, 1) := by decide +kernel
theorem dX4_findBreadth_22 : decode cX4_findBreadth 22 = .ok (.aload_n 0, 1) := by decide +kernel
theorem dX4_findBreadth_23 : decode cX4_findBreadth 23 = .ok (.getfield 49, 3) := by decide +kernel
theorem dX4_findBreadth_26 : decode cX4_findBreadth 26 = .ok (.iload_n 2, 1) := by decide +kernel
theorem dX4_findBreadth_27 : decode cX4_findBreadth 27 = .ok (.iconst 0, 1) := by decide +kernel
theorem dX4_findBreadth_28 : decode cX4_findBreadth 28 = .ok (.iastore, 1) := by decide +kernel
theorem dX4_findBreadth_29 : decode cX4_findBreadth 29 = .ok (.iconst 0, 1) := by decide +kernel
theorem dX4_findBreadth_30 : decode cX4_findBreadth 30 = .ok (.istore_n 3, 1) := by decide +kernel
theorem dX4_findBreadth_31 : decode cX4_findBreadth 31 = .ok (.iload_n 3, 1) := by decide +kernel
theorem dX4_findBreadth_32 : decode cX4_findBreadth 32 = .ok (.iload_n 1, 1) := by decide +kernel
theorem dX4_findBreadth_33 : decode cX4_findBreadth 33 = .ok (.if_icmp .ge 87, 3) := by decide +kernel
theorem dX4_findBreadth_36 : decode cX4_findBreadth 36 = .ok (.aload_n 0, 1) := by decide +kernel
theorem dX4_findBreadth_37 : decode cX4_findBreadth 37 = .ok (.getfield 31, 3) := by decide +kernel
theorem dX4_findBreadth_40 : decode cX4_findBreadth 40 = .ok (.iload_n 3, 1) := by decide +kernel
theorem dX4_findBreadth_41 : decode cX4_findBreadth 41 = .ok (.iaload, 1) := by decide +kernel
theorem dX4_findBreadth_42 : decode cX4_findBreadth 42 = .ok (.istore 4, 2) := by decide +kernel
theorem dX4_findBreadth_44 : decode cX4_findBreadth 44 = .ok (.aload_n 0, 1) := by decide +kernel
theorem dX4_findBreadth_45 : decode cX4_findBreadth 45 = .ok (.getfield 49, 3) := by decide +kernel
theorem dX4_findBreadth_48 : decode cX4_findBreadth 48 = .ok (.iload_n 2, 1) := by decide +kernel
theorem dX4_findBreadth_49 : decode cX4_findBreadth 49 = .ok (.aload_n 0, 1) := by decide +kernel
theorem dX4_findBreadth_50 : decode cX4_findBreadth 50 = .ok (.getfield 55, 3) := by decide +kernel
theorem dX4_findBreadth_53 : decode cX4_findBreadth 53 = .ok (.iload 4, 2) := by decide +kernel
theorem dX4_findBreadth_55 : decode cX4_findBreadth 55 = .ok (.iaload, 1) := by decide +kernel
theorem dX4_findBreadth_56 : decode cX4_findBreadth 56 = .ok (.aload_n 0, 1) := by decide +kernel
theorem dX4_findBreadth_57 : decode cX4_findBreadth 57 = .ok (.getfield 55, 3) := by decide +kernel
theorem dX4_findBreadth_60 : decode cX4_findBreadth 60 = .ok (.iload_n 2, 1) := by decide +kernel
theorem dX4_findBreadth_61 : decode cX4_findBreadth 61 = .ok (.iaload, 1) := by decide +kernel
theorem dX4_findBreadth_62 : decode cX4_findBreadth 62 = .ok (.if_icmp .ge 45, 3) := by decide +kernel
theorem dX4_findBreadth_65 : decode cX4_findBreadth 65 = .ok (.aload_n 0, 1) := by decide +kernel
theorem dX4_findBreadth_66 : decode cX4_findBreadth 66 = .ok (.getfield 49, 3) := by decide +kernel
theorem dX4_findBreadth_69 : decode cX4_findBreadth 69 = .ok (.iload 4, 2) := by decide +kernel
theorem dX4_findBreadth_71 : decode cX4_findBreadth 71 = .ok (.iaload, 1) := by decide +kernel
theorem dX4_findBreadth_72 : decode cX4_findBreadth 72 = .ok (.aload_n 0, 1) := by decide +kernel
theorem dX4_findBreadth_73 : decode cX4_findBreadth 73 = .ok (.getfield 25, 3) := by decide +kernel
theorem dX4_findBreadth_76 : decode cX4_findBreadth 76 = .ok (.iload 4, 2) := by decide +kernel
theorem dX4_findBreadth_78 : decode cX4_findBreadth 78 = .ok (.iaload, 1) := by decide +kernel
theorem dX4_findBreadth_79 : decode cX4_findBreadth 79 = .ok (.iadd, 1) := by decide +kernel
theorem dX4_findBreadth_80 : decode cX4_findBreadth 80 = .ok (.aload_n 0, 1) := by decide +kernel
theorem dX4_findBreadth_81 : decode cX4_findBreadth 81 = .ok (.getfield 49, 3) := by decide +kernel
theorem dX4_findBreadth_84 : decode cX4_findBreadth 84 = .ok (.iload_n 2, 1) := by decide +kernel
theorem dX4_findBreadth_85 : decode cX4_findBreadth 85 = .ok (.iaload, 1) := by decide +kernel
theorem dX4_findBreadth_86 : decode cX4_findBreadth 86 = .ok (.if_icmp .le 21, 3) := by decide +kernel
theorem dX4_findBreadth_89 : decode cX4_findBreadth 89 = .ok (.aload_n 0, 1) := by decide +kernel
theorem dX4_findBreadth_90 : decode cX4_findBreadth 90 = .ok (.getfield 49, 3) := by decide +kernel
theorem dX4_findBreadth_93 : decode cX4_findBreadth 93 = .ok (.iload 4, 2) := by decide +kernel
theorem dX4_findBreadth_95 : decode cX4_findBreadth 95 = .ok (.iaload, 1) := by decide +kernel
theorem dX4_findBreadth_96 : decode cX4_findBreadth 96 = .ok (.aload_n 0, 1) := by decide +kernel
theorem dX4_findBreadth_97 : decode cX4_findBreadth 97 = .ok (.getfield 25, 3) := by decide +kernel
theorem dX4_findBreadth_100 : decode cX4_findBreadth 100 = .ok (.iload 4, 2) := by decide +kernel
theorem dX4_findBreadth_102 : decode cX4_findBreadth 102 = .ok (.iaload, 1) := by decide +kernel
theorem dX4_findBreadth_103 : decode cX4_findBreadth 103 = .ok (.iadd, 1) := by decide +kernel
theorem dX4_findBreadth_104 : decode cX4_findBreadth 104 = .ok (.goto 9, 3) := by decide +kernel
theorem dX4_findBreadth_107 : decode cX4_findBreadth 107 = .ok (.aload_n 0, 1) := by decide +kernel
theorem dX4_findBreadth_108 : decode cX4_findBreadth 108 = .ok (.getfield 49, 3) := by decide +kernel
theorem dX4_findBreadth_111 : decode cX4_findBreadth 111 = .ok (.iload_n 2, 1) := by decide +kernel
theorem dX4_findBreadth_112 : decode cX4_findBreadth 112 = .ok (.iaload, 1) := by decide +kernel
theorem dX4_findBreadth_113 : decode cX4_findBreadth 113 = .ok (.iastore, 1) := by decide +kernel
theorem dX4_findBreadth_114 : decode cX4_findBreadth 114 = .ok (.iinc 3 1, 3) := by decide +kernel
theorem dX4_findBreadth_117 : decode cX4_findBreadth 117 = .ok (.goto (-86), 3) := by decide +kernel
theorem dX4_findBreadth_120 : decode cX4_findBreadth 120 = .ok (.aload_n 0, 1) := by decide +kernel
theorem dX4_findBreadth_121 : decode cX4_findBreadth 121 = .ok (.aload_n 0, 1) := by decide +kernel
theorem dX4_findBreadth_122 : decode cX4_findBreadth 122 = .ok (.getfield 49, 3) := by decide +kernel
theorem dX4_findBreadth_125 : decode cX4_findBreadth 125 = .ok (.iload_n 2, 1) := by decide +kernel
theorem dX4_findBreadth_126 : decode cX4_findBreadth 126 = .ok (.iaload, 1) := by decide +kernel
theorem dX4_findBreadth_127 : decode cX4_findBreadth 127 = .ok (.aload_n 0, 1) := by decide +kernel
theorem dX4_findBreadth_128 : decode cX4_findBreadth 128 = .ok (.getfield 25, 3) := by decide +kernel
theorem dX4_findBreadth_131 : decode cX4_findBreadth 131 = .ok (.iload_n 2, 1) := by decide +kernel
theorem dX4_findBreadth_132 : decode cX4_findBreadth 132 = .ok (.iaload, 1) := by decide +kernel
theorem dX4_findBreadth_133 : decode cX4_findBreadth 133 = .ok (.iadd, 1) := by decide +kernel
theorem dX4_findBreadth_134 : decode cX4_findBreadth 134 = .ok (.aload_n 0, 1) := by decide +kernel
theorem dX4_findBreadth_135 : decode cX4_findBreadth 135 = .ok (.getfield 136, 3) := by decide +kernel
theorem dX4_findBreadth_138 : decode cX4_findBreadth 138 = .ok (.if_icmp .le 19, 3) := by decide +kernel
theorem dX4_findBreadth_141 : decode cX4_findBreadth 141 = .ok (.aload_n 0, 1) := by decide +kernel
theorem dX4_findBreadth_142 : decode cX4_findBreadth 142 = .ok (.getfield 49, 3) := by decide +kernel
theorem dX4_findBreadth_145 : decode cX4_findBreadth 145 = .ok (.iload_n 2, 1) := by decide +kernel
theorem dX4_findBreadth_146 : decode cX4_findBreadth 146 = .ok (.iaload, 1) := by decide +kernel
theorem dX4_findBreadth_147 : decode cX4_findBreadth 147 = .ok (.aload_n 0, 1) := by decide +kernel
theorem dX4_findBreadth_148 : decode cX4_findBreadth 148 = .ok (.getfield 25, 3) := by decide +kernel
theorem dX4_findBreadth_151 : decode cX4_findBreadth 151 = .ok (.iload_n 2, 1) := by decide +kernel
theorem dX4_findBreadth_152 : decode cX4_findBreadth 152 = .ok (.iaload, 1) := by decide +kernel
theorem dX4_findBreadth_153 : decode cX4_findBreadth 153 = .ok (.iadd, 1) := by decide +kernel
theorem dX4_findBreadth_154 : decode cX4_findBreadth 154 = .ok (.goto 7, 3) := by decide +kernel
theorem dX4_findBreadth_157 : decode cX4_findBreadth 157 = .ok (.aload_n 0, 1) := by decide +kernel
theorem dX4_findBreadth_158 : decode cX4_findBreadth 158 = .ok (.getfield 136, 3) := by decide +kernel
theorem dX4_findBreadth_161 : decode cX4_findBreadth 161 = .ok (.putfield 136, 3) := by decide +kernel
theorem dX4_findBreadth_164 : decode cX4_findBreadth 164 = .ok (.iinc 1 1, 3) := by decide +kernel
theorem dX4_findBreadth_167 : decode cX4_findBreadth 167 = .ok (.goto (-160), 3) := by decide +kernel
theorem dX4_findBreadth_170 : decode cX4_findBreadth 170 = .ok (.return_, 1) := by decide +kernel
theorem dX4_findDepth_0 : decode cX4_findDepth 0 = .ok (.aload_n 0, 1) := by decide +kernel
theorem dX4_findDepth_1 : decode cX4_findDepth 1 = .ok (.iconst 0, 1) := by decide +kernel
theorem dX4_findDepth_2 : decode cX4_findDepth 2 = .ok (.putfield 139, 3) := by decide +kernel
theorem dX4_findDepth_5 : decode cX4_findDepth 5 = .ok (.iconst 0, 1) := by decide +kernel
theorem dX4_findDepth_6 : decode cX4_findDepth 6 = .ok (.istore_n 1, 1) := by decide +kernel
theorem dX4_findDepth_7 : decode cX4_findDepth 7 = .ok (.iload_n 1, 1) := by decide +kernel
theorem dX4_findDepth_8 : decode cX4_findDepth 8 = .ok (.aload_n 0, 1) := by decide +kernel
theorem dX4_findDepth_9 : decode cX4_findDepth 9 = .ok (.getfield 86, 3) := by decide +kernel
theorem dX4_findDepth_12 : decode cX4_findDepth 12 = .ok (.if_icmp .ge 154, 3) := by decide +kernel
theorem dX4_findDepth_15 : decode cX4_findDepth 15 = .ok (.aload_n 0, 1) := by decide +kernel
theorem dX4_findDepth_16 : decode cX4_findDepth 16 = .ok (.getfield 31, 3) := by decide +kernel
theorem dX4_findDepth_19 : decode cX4_findDepth 19 = .ok (.iload_n 1, 1) := by decide +kernel
theorem dX4_findDepth_20 : decode cX4_findDepth 20 = .ok (.iaload, 1) := by decide +kernel
theorem dX4_findDepth_21 : decode cX4_findDepth 21 = .ok (.istore_n 2, 1) := by decide +kernel
theorem dX4_findDepth_22 : decode cX4_findDepth 22 = .ok (.aload_n 0, 1) := by decide +kernel
theorem dX4_findDepth_23 : decode cX4_findDepth 23 = .ok (.getfield 52, 3) := by decide +kernel
theorem dX4_findDepth_26 : decode cX4_findDepth 26 = .ok (.iload_n 2, 1) := by decide +kernel
theorem dX4_findDepth_27 : decode cX4_findDepth 27 = .ok (.iconst 0, 1) := by decide +kernel
theorem dX4_findDepth_28 : decode cX4_findDepth 28 = .ok (.iastore, 1) := by decide +kernel
theorem dX4_findDepth_29 : decode cX4_findDepth 29 = .ok (.iconst 0, 1) := by decide +kernel
theorem dX4_findDepth_30 : decode cX4_findDepth 30 = .ok (.istore_n 3, 1) := by decide +kernel
theorem dX4_findDepth_31 : decode cX4_findDepth 31 = .ok (.iload_n 3, 1) := by decide +kernel
theorem dX4_findDepth_32 : decode cX4_findDepth 32 = .ok (.iload_n 1, 1) := by decide +kernel
theorem dX4_findDepth_33 : decode cX4_findDepth 33 = .ok (.if_icmp .ge 85, 3) := by decide +kernel
theorem dX4_findDepth_36 : decode cX4_findDepth 36 = .ok (.aload_n 0, 1) := by decide +kernel
theorem dX4_findDepth_37 : decode cX4_findDepth 37 = .ok (.getfield 31, 3) := by decide +kernel
theorem dX4_findDepth_40 : decode cX4_findDepth 40 = .ok (.iload_n 3, 1) := by decide +kernel
theorem dX4_findDepth_41 : decode cX4_findDepth 41 = .ok (.iaload, 1) := by decide +kernel
theorem dX4_findDepth_42 : decode cX4_findDepth 42 = .ok (.istore 4, 2) := by decide +kernel
theorem dX4_findDepth_44 : decode cX4_findDepth 44 = .ok (.aload_n 0, 1) := by decide +kernel
theorem dX4_findDepth_45 : decode cX4_findDepth 45 = .ok (.getfield 52, 3) := by decide +kernel
theorem dX4_findDepth_48 : decode cX4_findDepth 48 = .ok (.iload_n 2, 1) := by decide +kernel
theorem dX4_findDepth_49 : decode cX4_findDepth 49 = .ok (.aload_n 0, 1) := by decide +kernel
theorem dX4_findDepth_50 : decode cX4_findDepth 50 = .ok (.getfield 55, 3) := by decide +kernel
theorem dX4_findDepth_53 : decode cX4_findDepth 53 = .ok (.iload 4, 2) := by decide +kernel
theorem dX4_findDepth_55 : decode cX4_findDepth 55 = .ok (.iaload, 1) := by decide +kernel
theorem dX4_findDepth_56 : decode cX4_findDepth 56 = .ok (.aload_n 0, 1) := by decide +kernel
theorem dX4_findDepth_57 : decode cX4_findDepth 57 = .ok (.getfield 55, 3) := by decide +kernel
theorem dX4_findDepth_60 : decode cX4_findDepth 60 = .ok (.iload_n 2, 1) := by decide +kernel
theorem dX4_findDepth_61 : decode cX4_findDepth 61 = .ok (.iaload, 1) := by decide +kernel
theorem dX4_findDepth_62 : decode cX4_findDepth 62 = .ok (.if_icmp .le 43, 3) := by decide +kernel
theorem dX4_findDepth_65 : decode cX4_findDepth 65 = .ok (.aload_n 0, 1) := by decide +kernel
theorem dX4_findDepth_66 : decode cX4_findDepth 66 = .ok (.getfield 52, 3) := by decide +kernel
theorem dX4_findDepth_69 : decode cX4_findDepth 69 = .ok (.iload 4, 2) := by decide +kernel
theorem dX4_findDepth_71 : decode cX4_findDepth 71 = .ok (.iaload, 1) := by decide +kernel
theorem dX4_findDepth_72 : decode cX4_findDepth 72 = .ok (.aload_n 0, 1) := by decide +kernel
theorem dX4_findDepth_73 : decode cX4_findDepth 73 = .ok (.iload 4, 2) := by decide +kernel
theorem dX4_findDepth_75 : decode cX4_findDepth 75 = .ok (.invokevirtual 142, 3) := by decide +kernel
theorem dX4_findDepth_78 : decode cX4_findDepth 78 = .ok (.iadd, 1) := by decide +kernel
theorem dX4_findDepth_79 : decode cX4_findDepth 79 = .ok (.aload_n 0, 1) := by decide +kernel
theorem dX4_findDepth_80 : decode cX4_findDepth 80 = .ok (.getfield 52, 3) := by decide +kernel
theorem dX4_findDepth_83 : decode cX4_findDepth 83 = .ok (.iload_n 2, 1) := by decide +kernel
theorem dX4_findDepth_84 : decode cX4_findDepth 84 = .ok (.iaload, 1) := by decide +kernel
theorem dX4_findDepth_85 : decode cX4_findDepth 85 = .ok (.if_icmp .le 20, 3) := by decide +kernel
theorem dX4_findDepth_88 : decode cX4_findDepth 88 = .ok (.aload_n 0, 1) := by decide +kernel
theorem dX4_findDepth_89 : decode cX4_findDepth 89 = .ok (.getfield 52, 3) := by decide +kernel
theorem dX4_findDepth_92 : decode cX4_findDepth 92 = .ok (.iload 4, 2) := by decide +kernel
theorem dX4_findDepth_94 : decode cX4_findDepth 94 = .ok (.iaload, 1) := by decide +kernel
theorem dX4_findDepth_95 : decode cX4_findDepth 95 = .ok (.aload_n 0, 1) := by decide +kernel
theorem dX4_findDepth_96 : decode cX4_findDepth 96 = .ok (.iload 4, 2) := by decide +kernel
theorem dX4_findDepth_98 : decode cX4_findDepth 98 = .ok (.invokevirtual 142, 3) := by decide +kernel
theorem dX4_findDepth_101 : decode cX4_findDepth 101 = .ok (.iadd, 1) := by decide +kernel
theorem dX4_findDepth_102 : decode cX4_findDepth 102 = .ok (.goto 9, 3) := by decide +kernel
theorem dX4_findDepth_105 : decode cX4_findDepth 105 = .ok (.aload_n 0, 1) := by decide +kernel
theorem dX4_findDepth_106 : decode cX4_findDepth 106 = .ok (.getfield 52, 3) := by decide +kernel
theorem dX4_findDepth_109 : decode cX4_findDepth 109 = .ok (.iload_n 2, 1) := by decide +kernel
theorem dX4_findDepth_110 : decode cX4_findDepth 110 = .ok (.iaload, 1) := by decide +kernel
theorem dX4_findDepth_111 : decode cX4_findDepth 111 = .ok (.iastore, 1) := by decide +kernel
theorem dX4_findDepth_112 : decode cX4_findDepth 112 = .ok (.iinc 3 1, 3) := by decide +kernel
theorem dX4_findDepth_115 : decode cX4_findDepth 115 = .ok (.goto (-84), 3) := by decide +kernel
theorem dX4_findDepth_118 : decode cX4_findDepth 118 = .ok (.aload_n 0, 1) := by decide +kernel
theorem dX4_findDepth_119 : decode cX4_findDepth 119 = .ok (.aload_n 0, 1) := by decide +kernel
theorem dX4_findDepth_120 : decode cX4_findDepth 120 = .ok (.getfield 52, 3) := by decide +kernel
theorem dX4_findDepth_123 : decode cX4_findDepth 123 = .ok (.iload_n 2, 1) := by decide +kernel
theorem dX4_findDepth_124 : decode cX4_findDepth 124 = .ok (.iaload, 1) := by decide +kernel
theorem dX4_findDepth_125 : decode cX4_findDepth 125 = .ok (.aload_n 0, 1) := by decide +kernel
theorem dX4_findDepth_126 : decode cX4_findDepth 126 = .ok (.iload_n 2, 1) := by decide +kernel
theorem dX4_findDepth_127 : decode cX4_findDepth 127 = .ok (.invokevirtual 142, 3) := by decide +kernel
theorem dX4_findDepth_130 : decode cX4_findDepth 130 = .ok (.iadd, 1) := by decide +kernel
theorem dX4_findDepth_131 : decode cX4_findDepth 131 = .ok (.aload_n 0, 1) := by decide +kernel
theorem dX4_findDepth_132 : decode cX4_findDepth 132 = .ok (.getfield 139, 3) := by decide +kernel
theorem dX4_findDepth_135 : decode cX4_findDepth 135 = .ok (.if_icmp .le 18, 3) := by decide +kernel
theorem dX4_findDepth_138 : decode cX4_findDepth 138 = .ok (.aload_n 0, 1) := by decide +kernel
theorem dX4_findDepth_139 : decode cX4_findDepth 139 = .ok (.getfield 52, 3) := by decide +kernel
theorem dX4_findDepth_142 : decode cX4_findDepth 142 = .ok (.iload_n 2, 1) := by decide +kernel
theorem dX4_findDepth_143 : decode cX4_findDepth 143 = .ok (.iaload, 1) := by decide +kernel
theorem dX4_findDepth_144 : decode cX4_findDepth 144 = .ok (.aload_n 0, 1) := by decide +kernel
theorem dX4_findDepth_145 : decode cX4_findDepth 145 = .ok (.iload_n 2, 1) := by decide +kernel
theorem dX4_findDepth_146 : decode cX4_findDepth 146 = .ok (.invokevirtual 142, 3) := by decide +kernel
theorem dX4_findDepth_149 : decode cX4_findDepth 149 = .ok (.iadd, 1) := by decide +kernel
theorem dX4_findDepth_150 : decode cX4_findDepth 150 = .ok (.goto 7, 3) := by decide +kernel
theorem dX4_findDepth_153 : decode cX4_findDepth 153 = .ok (.aload_n 0, 1) := by decide +kernel
theorem dX4_findDepth_154 : decode cX4_findDepth 154 = .ok (.getfield 139, 3) := by decide +kernel
theorem dX4_findDepth_157 : decode cX4_findDepth 157 = .ok (.putfield 139, 3) := by decide +kernel
theorem dX4_findDepth_160 : decode cX4_findDepth 160 = .ok (.iinc 1 1, 3) := by decide +kernel
theorem dX4_findDepth_163 : decode cX4_findDepth 163 = .ok (.goto (-156), 3) := by decide +kernel
theorem dX4_findDepth_166 : decode cX4_findDepth 166 = .ok (.return_, 1) := by decide +kernel
theorem dX4_findPlaces_0 : decode cX4_findPlaces 0 = .ok (.iconst 0, 1) := by decide +kernel
theorem dX4_findPlaces_1 : decode cX4_findPlaces 1 = .ok (.istore_n 1, 1) := by decide +kernel
theorem dX4_findPlaces_2 : decode cX4_findPlaces 2 = .ok (.iload_n 1, 1) := by decide +kernel
theorem dX4_findPlaces_3 : decode cX4_findPlaces 3 = .ok (.aload_n 0, 1) := by decide +kernel
theorem dX4_findPlaces_4 : decode cX4_findPlaces 4 = .ok (.getfield 86, 3) := by decide +kernel
theorem dX4_findPlaces_7 : decode cX4_findPlaces 7 = .ok (.if_icmp .ge 24, 3) := by decide +kernel
theorem dX4_findPlaces_10 : decode cX4_findPlaces 10 = .ok (.aload_n 0, 1) := by decide +kernel
theorem dX4_findPlaces_11 : decode cX4_findPlaces 11 = .ok (.getfield 55, 3) := by decide +kernel
theorem dX4_findPlaces_14 : decode cX4_findPlaces 14 = .ok (.aload_n 0, 1) := by decide +kernel
theorem dX4_findPlaces_15 : decode cX4_findPlaces 15 = .ok (.getfield 31, 3) := by decide +kernel
theorem dX4_findPlaces_18 : decode cX4_findPlaces 18 = .ok (.bipush 6, 2) := by decide +kernel
theorem dX4_findPlaces_20 : decode cX4_findPlaces 20 = .ok (.iload_n 1, 1) := by decide +kernel
theorem dX4_findPlaces_21 : decode cX4_findPlaces 21 = .ok (.iadd, 1) := by decide +kernel
theorem dX4_findPlaces_22 : decode cX4_findPlaces 22 = .ok (.iaload, 1) := by decide +kernel
theorem dX4_findPlaces_23 : decode cX4_findPlaces 23 = .ok (.iload_n 1, 1) := by decide +kernel
theorem dX4_findPlaces_24 : decode cX4_findPlaces 24 = .ok (.iastore, 1) := by decide +kernel
theorem dX4_findPlaces_25 : decode cX4_findPlaces 25 = .ok (.iinc 1 1, 3) := by decide +kernel
theorem dX4_findPlaces_28 : decode cX4_findPlaces 28 = .ok (.goto (-26), 3) := by decide +kernel
theorem dX4_findPlaces_31 : decode cX4_findPlaces 31 = .ok (.aload_n 0, 1) := by decide +kernel
theorem dX4_findPlaces_32 : decode cX4_findPlaces 32 = .ok (.invokevirtual 145, 3) := by decide +kernel
theorem dX4_findPlaces_35 : decode cX4_findPlaces 35 = .ok (.aload_n 0, 1) := by decide +kernel
theorem dX4_findPlaces_36 : decode cX4_findPlaces 36 = .ok (.invokevirtual 148, 3) := by decide +kernel
theorem dX4_findPlaces_39 : decode cX4_findPlaces 39 = .ok (.return_, 1) := by decide +kernel
theorem dX4_waste_0 : decode cX4_waste 0 = .ok (.aload_n 0, 1) := by decide +kernel
theorem dX4_waste_1 : decode cX4_waste 1 = .ok (.getfield 136, 3) := by decide +kernel
theorem dX4_waste_4 : decode cX4_waste 4 = .ok (.aload_n 0, 1) := by decide +kernel
theorem dX4_waste_5 : decode cX4_waste 5 = .ok (.getfield 139, 3) := by decide +kernel
theorem dX4_waste_8 : decode cX4_waste 8 = .ok (.imul, 1) := by decide +kernel
theorem dX4_waste_9 : decode cX4_waste 9 = .ok (.istore_n 1, 1) := by decide +kernel
theorem dX4_waste_10 : decode cX4_waste 10 = .ok (.iconst 0, 1) := by decide +kernel
theorem dX4_waste_11 : decode cX4_waste 11 = .ok (.istore_n 2, 1) := by decide +kernel
theorem dX4_waste_12 : decode cX4_waste 12 = .ok (.iload_n 2, 1) := by decide +kernel
theorem dX4_waste_13 : decode cX4_waste 13 = .ok (.aload_n 0, 1) := by decide +kernel
theorem dX4_waste_14 : decode cX4_waste 14 = .ok (.getfield 86, 3) := by decide +kernel
theorem dX4_waste_17 : decode cX4_waste 17 = .ok (.if_icmp .ge 24, 3) := by decide +kernel
theorem dX4_waste_20 : decode cX4_waste 20 = .ok (.iload_n 1, 1) := by decide +kernel
theorem dX4_waste_21 : decode cX4_waste 21 = .ok (.aload_n 0, 1) := by decide +kernel
theorem dX4_waste_22 : decode cX4_waste 22 = .ok (.getfield 25, 3) := by decide +kernel
theorem dX4_waste_25 : decode cX4_waste 25 = .ok (.iload_n 2, 1) := by decide +kernel
theorem dX4_waste_26 : decode cX4_waste 26 = .ok (.iaload, 1) := by decide +kernel
theorem dX4_waste_27 : decode cX4_waste 27 = .ok (.aload_n 0, 1) := by decide +kernel
theorem dX4_waste_28 : decode cX4_waste 28 = .ok (.iload_n 2, 1) := by decide +kernel
theorem dX4_waste_29 : decode cX4_waste 29 = .ok (.invokevirtual 142, 3) := by decide +kernel
theorem dX4_waste_32 : decode cX4_waste 32 = .ok (.imul, 1) := by decide +kernel
theorem dX4_waste_33 : decode cX4_waste 33 = .ok (.isub, 1) := by decide +kernel
theorem dX4_waste_34 : decode cX4_waste 34 = .ok (.istore_n 1, 1) := by decide +kernel
theorem dX4_waste_35 : decode cX4_waste 35 = .ok (.iinc 2 1, 3) := by decide +kernel
theorem dX4_waste_38 : decode cX4_waste 38 = .ok (.goto (-26), 3) := by decide +kernel
theorem dX4_waste_41 : decode cX4_waste 41 = .ok (.iload_n 1, 1) := by decide +kernel
theorem dX4_waste_42 : decode cX4_waste 42 = .ok (.ireturn, 1) := by decide +kernel
theorem dX4_share_0 : decode cX4_share 0 = .ok (.iload_n 0, 1) := by decide +kernel
theorem dX4_share_1 : decode cX4_share 1 = .ok (.iload_n 2, 1) := by decide +kernel
theorem dX4_share_2 : decode cX4_share 2 = .ok (.iload_n 3, 1) := by decide +kernel
theorem dX4_share_3 : decode cX4_share 3 = .ok (.iadd, 1) := by decide +kernel
theorem dX4_share_4 : decode cX4_share 4 = .ok (.if_icmp .ge 14, 3) := by decide +kernel
theorem dX4_share_7 : decode cX4_share 7 = .ok (.iload_n 2, 1) := by decide +kernel
theorem dX4_share_8 : decode cX4_share 8 = .ok (.iload_n 0, 1) := by decide +kernel
theorem dX4_share_9 : decode cX4_share 9 = .ok (.iload_n 1, 1) := by decide +kernel
theorem dX4_share_10 : decode cX4_share 10 = .ok (.iadd, 1) := by decide +kernel
theorem dX4_share_11 : decode cX4_share 11 = .ok (.if_icmp .ge 7, 3) := by decide +kernel
theorem dX4_share_14 : decode cX4_share 14 = .ok (.iconst 1, 1) := by decide +kernel
theorem dX4_share_15 : decode cX4_share 15 = .ok (.goto 4, 3) := by decide +kernel
theorem dX4_share_18 : decode cX4_share 18 = .ok (.iconst 0, 1) := by decide +kernel
theorem dX4_share_19 : decode cX4_share 19 = .ok (.ireturn, 1) := by decide +kernel
theorem dX4_doTouch_0 : decode cX4_doTouch 0 = .ok (.aload_n 0, 1) := by decide +kernel
theorem dX4_doTouch_1 : decode cX4_doTouch 1 = .ok (.getfield 49, 3) := by decide +kernel
theorem dX4_doTouch_4 : decode cX4_doTouch 4 = .ok (.iload_n 1, 1) := by decide +kernel
theorem dX4_doTouch_5 : decode cX4_doTouch 5 = .ok (.iaload, 1) := by decide +kernel
theorem dX4_doTouch_6 : decode cX4_doTouch 6 = .ok (.aload_n 0, 1) := by decide +kernel
theorem dX4_doTouch_7 : decode cX4_doTouch 7 = .ok (.getfield 25, 3) := by decide +kernel
theorem dX4_doTouch_10 : decode cX4_doTouch 10 = .ok (.iload_n 1, 1) := by decide +kernel
theorem dX4_doTouch_11 : decode cX4_doTouch 11 = .ok (.iaload, 1) := by decide +kernel
theorem dX4_doTouch_12 : decode cX4_doTouch 12 = .ok (.iadd, 1) := by decide +kernel
theorem dX4_doTouch_13 : decode cX4_doTouch 13 = .ok (.aload_n 0, 1) := by decide +kernel
theorem dX4_doTouch_14 : decode cX4_doTouch 14 = .ok (.getfield 49, 3) := by decide +kernel
theorem dX4_doTouch_17 : decode cX4_doTouch 17 = .ok (.iload_n 2, 1) := by decide +kernel
theorem dX4_doTouch_18 : decode cX4_doTouch 18 = .ok (.iaload, 1) := by decide +kernel
theorem dX4_doTouch_19 : decode cX4_doTouch 19 = .ok (.if_icmp .eq 25, 3) := by decide +kernel
theorem dX4_doTouch_22 : decode cX4_doTouch 22 = .ok (.aload_n 0, 1) := by decide +kernel
theorem dX4_doTouch_23 : decode cX4_doTouch 23 = .ok (.getfield 49, 3) := by decide +kernel
theorem dX4_doTouch_26 : decode cX4_doTouch 26 = .ok (.iload_n 2, 1) := by decide +kernel
theorem dX4_doTouch_27 : decode cX4_doTouch 27 = .ok (.iaload, 1) := by decide +kernel
theorem dX4_doTouch_28 : decode cX4_doTouch 28 = .ok (.aload_n 0, 1) := by decide +kernel
theorem dX4_doTouch_29 : decode cX4_doTouch 29 = .ok (.getfield 25, 3) := by decide +kernel
theorem dX4_doTouch_32 : decode cX4_doTouch 32 = .ok (.iload_n 2, 1) := by decide +kernel
theorem dX4_doTouch_33 : decode cX4_doTouch 33 = .ok (.iaload, 1) := by decide +kernel
theorem dX4_doTouch_34 : decode cX4_doTouch 34 = .ok (.iadd, 1) := by decide +kernel
theorem dX4_doTouch_35 : decode cX4_doTouch 35 = .ok (.aload_n 0, 1) := by decide +kernel
theorem dX4_doTouch_36 : decode cX4_doTouch 36 = .ok (.getfield 49, 3) := by decide +kernel
theorem dX4_doTouch_39 : decode cX4_doTouch 39 = .ok (.iload_n 1, 1) := by decide +kernel
theorem dX4_doTouch_40 : decode cX4_doTouch 40 = .ok (.iaload, 1) := by decide +kernel
theorem dX4_doTouch_41 : decode cX4_doTouch 41 = .ok (.if_icmp .ne 7, 3) := by decide +kernel
theorem dX4_doTouch_44 : decode cX4_doTouch 44 = .ok (.iconst 1, 1) := by decide +kernel
theorem dX4_doTouch_45 : decode cX4_doTouch 45 = .ok (.goto 4, 3) := by decide +kernel
theorem dX4_doTouch_48 : decode cX4_doTouch 48 = .ok (.iconst 0, 1) := by decide +kernel
theorem dX4_doTouch_49 : decode cX4_doTouch 49 = .ok (.istore_n 3, 1) := by decide +kernel
theorem dX4_doTouch_50 : decode cX4_doTouch 50 = .ok (.aload_n 0, 1) := by decide +kernel
theorem dX4_doTouch_51 : decode cX4_doTouch 51 = .ok (.getfield 52, 3) := by decide +kernel
theorem dX4_doTouch_54 : decode cX4_doTouch 54 = .ok (.iload_n 1, 1) := by decide +kernel
theorem dX4_doTouch_55 : decode cX4_doTouch 55 = .ok (.iaload, 1) := by decide +kernel
theorem dX4_doTouch_56 : decode cX4_doTouch 56 = .ok (.aload_n 0, 1) := by decide +kernel
theorem dX4_doTouch_57 : decode cX4_doTouch 57 = .ok (.iload_n 1, 1) := by decide +kernel
theorem dX4_doTouch_58 : decode cX4_doTouch 58 = .ok (.invokevirtual 142, 3) := by decide +kernel
theorem dX4_doTouch_61 : decode cX4_doTouch 61 = .ok (.iadd, 1) := by decide +kernel
theorem dX4_doTouch_62 : decode cX4_doTouch 62 = .ok (.aload_n 0, 1) := by decide +kernel
theorem dX4_doTouch_63 : decode cX4_doTouch 63 = .ok (.getfield 52, 3) := by decide +kernel
theorem dX4_doTouch_66 : decode cX4_doTouch 66 = .ok (.iload_n 2, 1) := by decide +kernel
theorem dX4_doTouch_67 : decode cX4_doTouch 67 = .ok (.iaload, 1) := by decide +kernel
theorem dX4_doTouch_68 : decode cX4_doTouch 68 = .ok (.if_icmp .eq 24, 3) := by decide +kernel
theorem dX4_doTouch_71 : decode cX4_doTouch 71 = .ok (.aload_n 0, 1) := by decide +kernel
theorem dX4_doTouch_72 : decode cX4_doTouch 72 = .ok (.getfield 52, 3) := by decide +kernel
theorem dX4_doTouch_75 : decode cX4_doTouch 75 = .ok (.iload_n 2, 1) := by decide +kernel
theorem dX4_doTouch_76 : decode cX4_doTouch 76 = .ok (.iaload, 1) := by decide +kernel
theorem dX4_doTouch_77 : decode cX4_doTouch 77 = .ok (.aload_n 0, 1) := by decide +kernel
theorem dX4_doTouch_78 : decode cX4_doTouch 78 = .ok (.iload_n 2, 1) := by decide +kernel
theorem dX4_doTouch_79 : decode cX4_doTouch 79 = .ok (.invokevirtual 142, 3) := by decide +kernel
theorem dX4_doTouch_82 : decode cX4_doTouch 82 = .ok (.iadd, 1) := by decide +kernel
theorem dX4_doTouch_83 : decode cX4_doTouch 83 = .ok (.aload_n 0, 1) := by decide +kernel
theorem dX4_doTouch_84 : decode cX4_doTouch 84 = .ok (.getfield 52, 3) := by decide +kernel
theorem dX4_doTouch_87 : decode cX4_doTouch 87 = .ok (.iload_n 1, 1) := by decide +kernel
theorem dX4_doTouch_88 : decode cX4_doTouch 88 = .ok (.iaload, 1) := by decide +kernel
theorem dX4_doTouch_89 : decode cX4_doTouch 89 = .ok (.if_icmp .ne 7, 3) := by decide +kernel
theorem dX4_doTouch_92 : decode cX4_doTouch 92 = .ok (.iconst 1, 1) := by decide +kernel
theorem dX4_doTouch_93 : decode cX4_doTouch 93 = .ok (.goto 4, 3) := by decide +kernel
theorem dX4_doTouch_96 : decode cX4_doTouch 96 = .ok (.iconst 0, 1) := by decide +kernel
theorem dX4_doTouch_97 : decode cX4_doTouch 97 = .ok (.istore 4, 2) := by decide +kernel
theorem dX4_doTouch_99 : decode cX4_doTouch 99 = .ok (.iload_n 1, 1) := by decide +kernel
theorem dX4_doTouch_100 : decode cX4_doTouch 100 = .ok (.iload_n 2, 1) := by decide +kernel
theorem dX4_doTouch_101 : decode cX4_doTouch 101 = .ok (.if_icmp .eq 74, 3) := by decide +kernel
theorem dX4_doTouch_104 : decode cX4_doTouch 104 = .ok (.iload_n 3, 1) := by decide +kernel
theorem dX4_doTouch_105 : decode cX4_doTouch 105 = .ok (.ifCond .eq 31, 3) := by decide +kernel
theorem dX4_doTouch_108 : decode cX4_doTouch 108 = .ok (.aload_n 0, 1) := by decide +kernel
theorem dX4_doTouch_109 : decode cX4_doTouch 109 = .ok (.getfield 52, 3) := by decide +kernel
theorem dX4_doTouch_112 : decode cX4_doTouch 112 = .ok (.iload_n 1, 1) := by decide +kernel
theorem dX4_doTouch_113 : decode cX4_doTouch 113 = .ok (.iaload, 1) := by decide +kernel
theorem dX4_doTouch_114 : decode cX4_doTouch 114 = .ok (.aload_n 0, 1) := by decide +kernel
theorem dX4_doTouch_115 : decode cX4_doTouch 115 = .ok (.iload_n 1, 1) := by decide +kernel
theorem dX4_doTouch_116 : decode cX4_doTouch 116 = .ok (.invokevirtual 142, 3) := by decide +kernel
theorem dX4_doTouch_119 : decode cX4_doTouch 119 = .ok (.aload_n 0, 1) := by decide +kernel
theorem dX4_doTouch_120 : decode cX4_doTouch 120 = .ok (.getfield 52, 3) := by decide +kernel
theorem dX4_doTouch_123 : decode cX4_doTouch 123 = .ok (.iload_n 2, 1) := by decide +kernel
theorem dX4_doTouch_124 : decode cX4_doTouch 124 = .ok (.iaload, 1) := by decide +kernel
theorem dX4_doTouch_125 : decode cX4_doTouch 125 = .ok (.aload_n 0, 1) := by decide +kernel
theorem dX4_doTouch_126 : decode cX4_doTouch 126 = .ok (.iload_n 2, 1) := by decide +kernel
theorem dX4_doTouch_127 : decode cX4_doTouch 127 = .ok (.invokevirtual 142, 3) := by decide +kernel
theorem dX4_doTouch_130 : decode cX4_doTouch 130 = .ok (.invokestatic 151, 3) := by decide +kernel
theorem dX4_doTouch_133 : decode cX4_doTouch 133 = .ok (.ifCond .ne 38, 3) := by decide +kernel
theorem dX4_doTouch_136 : decode cX4_doTouch 136 = .ok (.iload 4, 2) := by decide +kernel
theorem dX4_doTouch_138 : decode cX4_doTouch 138 = .ok (.ifCond .eq 37, 3) := by decide +kernel
theorem dX4_doTouch_141 : decode cX4_doTouch 141 = .ok (.aload_n 0, 1) := by decide +kernel
theorem dX4_doTouch_142 : decode cX4_doTouch 142 = .ok (.getfield 49, 3) := by decide +kernel
theorem dX4_doTouch_145 : decode cX4_doTouch 145 = .ok (.iload_n 1, 1) := by decide +kernel
theorem dX4_doTouch_146 : decode cX4_doTouch 146 = .ok (.iaload, 1) := by decide +kernel
theorem dX4_doTouch_147 : decode cX4_doTouch 147 = .ok (.aload_n 0, 1) := by decide +kernel
theorem dX4_doTouch_148 : decode cX4_doTouch 148 = .ok (.getfield 25, 3) := by decide +kernel
theorem dX4_doTouch_151 : decode cX4_doTouch 151 = .ok (.iload_n 1, 1) := by decide +kernel
theorem dX4_doTouch_152 : decode cX4_doTouch 152 = .ok (.iaload, 1) := by decide +kernel
theorem dX4_doTouch_153 : decode cX4_doTouch 153 = .ok (.aload_n 0, 1) := by decide +kernel
theorem dX4_doTouch_154 : decode cX4_doTouch 154 = .ok (.getfield 49, 3) := by decide +kernel
theorem dX4_doTouch_157 : decode cX4_doTouch 157 = .ok (.iload_n 2, 1) := by decide +kernel
theorem dX4_doTouch_158 : decode cX4_doTouch 158 = .ok (.iaload, 1) := by decide +kernel
theorem dX4_doTouch_159 : decode cX4_doTouch 159 = .ok (.aload_n 0, 1) := by decide +kernel
theorem dX4_doTouch_160 : decode cX4_doTouch 160 = .ok (.getfield 25, 3) := by decide +kernel
theorem dX4_doTouch_163 : decode cX4_doTouch 163 = .ok (.iload_n 2, 1) := by decide +kernel
theorem dX4_doTouch_164 : decode cX4_doTouch 164 = .ok (.iaload, 1) := by decide +kernel
theorem dX4_doTouch_165 : decode cX4_doTouch 165 = .ok (.invokestatic 151, 3) := by decide +kernel
theorem dX4_doTouch_168 : decode cX4_doTouch 168 = .ok (.ifCond .eq 7, 3) := by decide +kernel
theorem dX4_doTouch_171 : decode cX4_doTouch 171 = .ok (.iconst 1, 1) := by decide +kernel
theorem dX4_doTouch_172 : decode cX4_doTouch 172 = .ok (.goto 4, 3) := by decide +kernel
theorem dX4_doTouch_175 : decode cX4_doTouch 175 = .ok (.iconst 0, 1) := by decide +kernel
theorem dX4_doTouch_176 : decode cX4_doTouch 176 = .ok (.ireturn, 1) := by decide +kernel
theorem dX4_touching_0 : decode cX4_touching 0 = .ok (.iconst 0, 1) := by decide +kernel
theorem dX4_touching_1 : decode cX4_touching 1 = .ok (.istore_n 2, 1) := by decide +kernel
theorem dX4_touching_2 : decode cX4_touching 2 = .ok (.iconst 0, 1) := by decide +kernel
theorem dX4_touching_3 : decode cX4_touching 3 = .ok (.istore_n 3, 1) := by decide +kernel
theorem dX4_touching_4 : decode cX4_touching 4 = .ok (.iload_n 3, 1) := by decide +kernel
theorem dX4_touching_5 : decode cX4_touching 5 = .ok (.aload_n 0, 1) := by decide +kernel
theorem dX4_touching_6 : decode cX4_touching 6 = .ok (.getfield 86, 3) := by decide +kernel
theorem dX4_touching_9 : decode cX4_touching 9 = .ok (.if_icmp .ge 28, 3) := by decide +kernel
theorem dX4_touching_12 : decode cX4_touching 12 = .ok (.iload_n 2, 1) := by decide +kernel
theorem dX4_touching_13 : decode cX4_touching 13 = .ok (.aload_n 0, 1) := by decide +kernel
theorem dX4_touching_14 : decode cX4_touching 14 = .ok (.iload_n 1, 1) := by decide +kernel
theorem dX4_touching_15 : decode cX4_touching 15 = .ok (.iload_n 3, 1) := by decide +kernel
theorem dX4_touching_16 : decode cX4_touching 16 = .ok (.invokevirtual 155, 3) := by decide +kernel
theorem dX4_touching_19 : decode cX4_touching 19 = .ok (.ifCond .eq 9, 3) := by decide +kernel
theorem dX4_touching_22 : decode cX4_touching 22 = .ok (.iconst 1, 1) := by decide +kernel
theorem dX4_touching_23 : decode cX4_touching 23 = .ok (.iload_n 3, 1) := by decide +kernel
theorem dX4_touching_24 : decode cX4_touching 24 = .ok (.ishl, 1) := by decide +kernel
theorem dX4_touching_25 : decode cX4_touching 25 = .ok (.goto 4, 3) := by decide +kernel
theorem dX4_touching_28 : decode cX4_touching 28 = .ok (.iconst 0, 1) := by decide +kernel
theorem dX4_touching_29 : decode cX4_touching 29 = .ok (.ior, 1) := by decide +kernel
theorem dX4_touching_30 : decode cX4_touching 30 = .ok (.istore_n 2, 1) := by decide +kernel
theorem dX4_touching_31 : decode cX4_touching 31 = .ok (.iinc 3 1, 3) := by decide +kernel
theorem dX4_touching_34 : decode cX4_touching 34 = .ok (.goto (-30), 3) := by decide +kernel
theorem dX4_touching_37 : decode cX4_touching 37 = .ok (.iload_n 2, 1) := by decide +kernel
theorem dX4_touching_38 : decode cX4_touching 38 = .ok (.ireturn, 1) := by decide +kernel
theorem dX4_manyTouch_0 : decode cX4_manyTouch 0 = .ok (.iconst 0, 1) := by decide +kernel
theorem dX4_manyTouch_1 : decode cX4_manyTouch 1 = .ok (.istore_n 1, 1) := by decide +kernel
theorem dX4_manyTouch_2 : decode cX4_manyTouch 2 = .ok (.iconst 0, 1) := by decide +kernel
theorem dX4_manyTouch_3 : decode cX4_manyTouch 3 = .ok (.istore_n 2, 1) := by decide +kernel
theorem dX4_manyTouch_4 : decode cX4_manyTouch 4 = .ok (.iload_n 2, 1) := by decide +kernel
theorem dX4_manyTouch_5 : decode cX4_manyTouch 5 = .ok (.aload_n 0, 1) := by decide +kernel
theorem dX4_manyTouch_6 : decode cX4_manyTouch 6 = .ok (.getfield 86, 3) := by decide +kernel
theorem dX4_manyTouch_9 : decode cX4_manyTouch 9 = .ok (.if_icmp .ge 20, 3) := by decide +kernel
theorem dX4_manyTouch_12 : decode cX4_manyTouch 12 = .ok (.iload_n 1, 1) := by decide +kernel
theorem dX4_manyTouch_13 : decode cX4_manyTouch 13 = .ok (.aload_n 0, 1) := by decide +kernel
theorem dX4_manyTouch_14 : decode cX4_manyTouch 14 = .ok (.iload_n 2, 1) := by decide +kernel
theorem dX4_manyTouch_15 : decode cX4_manyTouch 15 = .ok (.invokevirtual 158, 3) := by decide +kernel
theorem dX4_manyTouch_18 : decode cX4_manyTouch 18 = .ok (.invokestatic 161, 3) := by decide +kernel
theorem dX4_manyTouch_21 : decode cX4_manyTouch 21 = .ok (.iadd, 1) := by decide +kernel
theorem dX4_manyTouch_22 : decode cX4_manyTouch 22 = .ok (.istore_n 1, 1) := by decide +kernel
theorem dX4_manyTouch_23 : decode cX4_manyTouch 23 = .ok (.iinc 2 1, 3) := by decide +kernel
theorem dX4_manyTouch_26 : decode cX4_manyTouch 26 = .ok (.goto (-22), 3) := by decide +kernel
theorem dX4_manyTouch_29 : decode cX4_manyTouch 29 = .ok (.iload_n 1, 1) := by decide +kernel
theorem dX4_manyTouch_30 : decode cX4_manyTouch 30 = .ok (.iconst 2, 1) := by decide +kernel
theorem dX4_manyTouch_31 : decode cX4_manyTouch 31 = .ok (.idiv, 1) := by decide +kernel
theorem dX4_manyTouch_32 : decode cX4_manyTouch 32 = .ok (.ireturn, 1) := by decide +kernel
theorem dX4_critical_0 : decode cX4_critical 0 = .ok (.aload_n 0, 1) := by decide +kernel
theorem dX4_critical_1 : decode cX4_critical 1 = .ok (.invokevirtual 164, 3) := by decide +kernel
theorem dX4_critical_4 : decode cX4_critical 4 = .ok (.aload_n 0, 1) := by decide +kernel
theorem dX4_critical_5 : decode cX4_critical 5 = .ok (.getfield 136, 3) := by decide +kernel
theorem dX4_critical_8 : decode cX4_critical 8 = .ok (.istore_n 1, 1) := by decide +kernel
theorem dX4_critical_9 : decode cX4_critical 9 = .ok (.iconst 0, 1) := by decide +kernel
theorem dX4_critical_10 : decode cX4_critical 10 = .ok (.istore_n 2, 1) := by decide +kernel
theorem dX4_critical_11 : decode cX4_critical 11 = .ok (.iconst 0, 1) := by decide +kernel
theorem dX4_critical_12 : decode cX4_critical 12 = .ok (.istore_n 3, 1) := by decide +kernel
theorem dX4_critical_13 : decode cX4_critical 13 = .ok (.iload_n 3, 1) := by decide +kernel
theorem dX4_critical_14 : decode cX4_critical 14 = .ok (.aload_n 0, 1) := by decide +kernel
theorem dX4_critical_15 : decode cX4_critical 15 = .ok (.getfield 86, 3) := by decide +kernel
theorem dX4_critical_18 : decode cX4_critical 18 = .ok (.if_icmp .ge 51, 3) := by decide +kernel
theorem dX4_critical_21 : decode cX4_critical 21 = .ok (.aload_n 0, 1) := by decide +kernel
theorem dX4_critical_22 : decode cX4_critical 22 = .ok (.getfield 25, 3) := by decide +kernel
theorem dX4_critical_25 : decode cX4_critical 25 = .ok (.iload_n 3, 1) := by decide +kernel
theorem dX4_critical_26 : decode cX4_critical 26 = .ok (.dup2, 1) := by decide +kernel
theorem dX4_critical_27 : decode cX4_critical 27 = .ok (.iaload, 1) := by decide +kernel
theorem dX4_critical_28 : decode cX4_critical 28 = .ok (.iconst 1, 1) := by decide +kernel
theorem dX4_critical_29 : decode cX4_critical 29 = .ok (.isub, 1) := by decide +kernel
theorem dX4_critical_30 : decode cX4_critical 30 = .ok (.iastore, 1) := by decide +kernel
theorem dX4_critical_31 : decode cX4_critical 31 = .ok (.aload_n 0, 1) := by decide +kernel
theorem dX4_critical_32 : decode cX4_critical 32 = .ok (.invokevirtual 145, 3) := by decide +kernel
theorem dX4_critical_35 : decode cX4_critical 35 = .ok (.iload_n 2, 1) := by decide +kernel
theorem dX4_critical_36 : decode cX4_critical 36 = .ok (.aload_n 0, 1) := by decide +kernel
theorem dX4_critical_37 : decode cX4_critical 37 = .ok (.getfield 136, 3) := by decide +kernel
theorem dX4_critical_40 : decode cX4_critical 40 = .ok (.iload_n 1, 1) := by decide +kernel
theorem dX4_critical_41 : decode cX4_critical 41 = .ok (.if_icmp .ge 9, 3) := by decide +kernel
theorem dX4_critical_44 : decode cX4_critical 44 = .ok (.iconst 1, 1) := by decide +kernel
theorem dX4_critical_45 : decode cX4_critical 45 = .ok (.iload_n 3, 1) := by decide +kernel
theorem dX4_critical_46 : decode cX4_critical 46 = .ok (.ishl, 1) := by decide +kernel
theorem dX4_critical_47 : decode cX4_critical 47 = .ok (.goto 4, 3) := by decide +kernel
theorem dX4_critical_50 : decode cX4_critical 50 = .ok (.iconst 0, 1) := by decide +kernel
theorem dX4_critical_51 : decode cX4_critical 51 = .ok (.ior, 1) := by decide +kernel
theorem dX4_critical_52 : decode cX4_critical 52 = .ok (.istore_n 2, 1) := by decide +kernel
theorem dX4_critical_53 : decode cX4_critical 53 = .ok (.aload_n 0, 1) := by decide +kernel
theorem dX4_critical_54 : decode cX4_critical 54 = .ok (.getfield 25, 3) := by decide +kernel
theorem dX4_critical_57 : decode cX4_critical 57 = .ok (.iload_n 3, 1) := by decide +kernel
theorem dX4_critical_58 : decode cX4_critical 58 = .ok (.dup2, 1) := by decide +kernel
theorem dX4_critical_59 : decode cX4_critical 59 = .ok (.iaload, 1) := by decide +kernel
theorem dX4_critical_60 : decode cX4_critical 60 = .ok (.iconst 1, 1) := by decide +kernel
theorem dX4_critical_61 : decode cX4_critical 61 = .ok (.iadd, 1) := by decide +kernel
theorem dX4_critical_62 : decode cX4_critical 62 = .ok (.iastore, 1) := by decide +kernel
theorem dX4_critical_63 : decode cX4_critical 63 = .ok (.iinc 3 1, 3) := by decide +kernel
theorem dX4_critical_66 : decode cX4_critical 66 = .ok (.goto (-53), 3) := by decide +kernel
theorem dX4_critical_69 : decode cX4_critical 69 = .ok (.aload_n 0, 1) := by decide +kernel
theorem dX4_critical_70 : decode cX4_critical 70 = .ok (.invokevirtual 145, 3) := by decide +kernel
theorem dX4_critical_73 : decode cX4_critical 73 = .ok (.iload_n 2, 1) := by decide +kernel
theorem dX4_critical_74 : decode cX4_critical 74 = .ok (.ireturn, 1) := by decide +kernel
theorem dX4_leftOf_0 : decode cX4_leftOf 0 = .ok (.iconst 0, 1) := by decide +kernel
theorem dX4_leftOf_1 : decode cX4_leftOf 1 = .ok (.istore_n 2, 1) := by decide +kernel
theorem dX4_leftOf_2 : decode cX4_leftOf 2 = .ok (.iconst 0, 1) := by decide +kernel
theorem dX4_leftOf_3 : decode cX4_leftOf 3 = .ok (.istore_n 3, 1) := by decide +kernel
theorem dX4_leftOf_4 : decode cX4_leftOf 4 = .ok (.iload_n 3, 1) := by decide +kernel
theorem dX4_leftOf_5 : decode cX4_leftOf 5 = .ok (.aload_n 0, 1) := by decide +kernel
theorem dX4_leftOf_6 : decode cX4_leftOf 6 = .ok (.getfield 86, 3) := by decide +kernel
theorem dX4_leftOf_9 : decode cX4_leftOf 9 = .ok (.if_icmp .ge 28, 3) := by decide +kernel
theorem dX4_leftOf_12 : decode cX4_leftOf 12 = .ok (.iload_n 2, 1) := by decide +kernel
theorem dX4_leftOf_13 : decode cX4_leftOf 13 = .ok (.aload_n 0, 1) := by decide +kernel
theorem dX4_leftOf_14 : decode cX4_leftOf 14 = .ok (.iload_n 3, 1) := by decide +kernel
theorem dX4_leftOf_15 : decode cX4_leftOf 15 = .ok (.iload_n 1, 1) := by decide +kernel
theorem dX4_leftOf_16 : decode cX4_leftOf 16 = .ok (.invokevirtual 167, 3) := by decide +kernel
theorem dX4_leftOf_19 : decode cX4_leftOf 19 = .ok (.ifCond .eq 9, 3) := by decide +kernel
theorem dX4_leftOf_22 : decode cX4_leftOf 22 = .ok (.iconst 1, 1) := by decide +kernel
theorem dX4_leftOf_23 : decode cX4_leftOf 23 = .ok (.iload_n 3, 1) := by decide +kernel
theorem dX4_leftOf_24 : decode cX4_leftOf 24 = .ok (.ishl, 1) := by decide +kernel
theorem dX4_leftOf_25 : decode cX4_leftOf 25 = .ok (.goto 4, 3) := by decide +kernel
theorem dX4_leftOf_28 : decode cX4_leftOf 28 = .ok (.iconst 0, 1) := by decide +kernel
theorem dX4_leftOf_29 : decode cX4_leftOf 29 = .ok (.ior, 1) := by decide +kernel
theorem dX4_leftOf_30 : decode cX4_leftOf 30 = .ok (.istore_n 2, 1) := by decide +kernel
theorem dX4_leftOf_31 : decode cX4_leftOf 31 = .ok (.iinc 3 1, 3) := by decide +kernel
theorem dX4_leftOf_34 : decode cX4_leftOf 34 = .ok (.goto (-30), 3) := by decide +kernel
theorem dX4_leftOf_37 : decode cX4_leftOf 37 = .ok (.iload_n 2, 1) := by decide +kernel
theorem dX4_leftOf_38 : decode cX4_leftOf 38 = .ok (.ireturn, 1) := by decide +kernel
theorem dX4_aboveOf_0 : decode cX4_aboveOf 0 = .ok (.iconst 0, 1) := by decide +kernel
theorem dX4_aboveOf_1 : decode cX4_aboveOf 1 = .ok (.istore_n 2, 1) := by decide +kernel
theorem dX4_aboveOf_2 : decode cX4_aboveOf 2 = .ok (.iconst 0, 1) := by decide +kernel
theorem dX4_aboveOf_3 : decode cX4_aboveOf 3 = .ok (.istore_n 3, 1) := by decide +kernel
theorem dX4_aboveOf_4 : decode cX4_aboveOf 4 = .ok (.iload_n 3, 1) := by decide +kernel
theorem dX4_aboveOf_5 : decode cX4_aboveOf 5 = .ok (.aload_n 0, 1) := by decide +kernel
theorem dX4_aboveOf_6 : decode cX4_aboveOf 6 = .ok (.getfield 86, 3) := by decide +kernel
theorem dX4_aboveOf_9 : decode cX4_aboveOf 9 = .ok (.if_icmp .ge 28, 3) := by decide +kernel
theorem dX4_aboveOf_12 : decode cX4_aboveOf 12 = .ok (.iload_n 2, 1) := by decide +kernel
theorem dX4_aboveOf_13 : decode cX4_aboveOf 13 = .ok (.aload_n 0, 1) := by decide +kernel
theorem dX4_aboveOf_14 : decode cX4_aboveOf 14 = .ok (.iload_n 3, 1) := by decide +kernel
theorem dX4_aboveOf_15 : decode cX4_aboveOf 15 = .ok (.iload_n 1, 1) := by decide +kernel
theorem dX4_aboveOf_16 : decode cX4_aboveOf 16 = .ok (.invokevirtual 170, 3) := by decide +kernel
theorem dX4_aboveOf_19 : decode cX4_aboveOf 19 = .ok (.ifCond .eq 9, 3) := by decide +kernel
theorem dX4_aboveOf_22 : decode cX4_aboveOf 22 = .ok (.iconst 1, 1) := by decide +kernel
theorem dX4_aboveOf_23 : decode cX4_aboveOf 23 = .ok (.iload_n 3, 1) := by decide +kernel
theorem dX4_aboveOf_24 : decode cX4_aboveOf 24 = .ok (.ishl, 1) := by decide +kernel
theorem dX4_aboveOf_25 : decode cX4_aboveOf 25 = .ok (.goto 4, 3) := by decide +kernel
theorem dX4_aboveOf_28 : decode cX4_aboveOf 28 = .ok (.iconst 0, 1) := by decide +kernel
theorem dX4_aboveOf_29 : decode cX4_aboveOf 29 = .ok (.ior, 1) := by decide +kernel
theorem dX4_aboveOf_30 : decode cX4_aboveOf 30 = .ok (.istore_n 2, 1) := by decide +kernel
theorem dX4_aboveOf_31 : decode cX4_aboveOf 31 = .ok (.iinc 3 1, 3) := by decide +kernel
theorem dX4_aboveOf_34 : decode cX4_aboveOf 34 = .ok (.goto (-30), 3) := by decide +kernel
theorem dX4_aboveOf_37 : decode cX4_aboveOf 37 = .ok (.iload_n 2, 1) := by decide +kernel
theorem dX4_aboveOf_38 : decode cX4_aboveOf 38 = .ok (.ireturn, 1) := by decide +kernel
theorem dX4_ofArea_0 : decode cX4_ofArea 0 = .ok (.aload_n 0, 1) := by decide +kernel
theorem dX4_ofArea_1 : decode cX4_ofArea 1 = .ok (.iload_n 1, 1) := by decide +kernel
theorem dX4_ofArea_2 : decode cX4_ofArea 2 = .ok (.invokevirtual 173, 3) := by decide +kernel
theorem dX4_ofArea_5 : decode cX4_ofArea 5 = .ok (.ifCond .ne 5, 3) := by decide +kernel
theorem dX4_ofArea_8 : decode cX4_ofArea 8 = .ok (.iconst (-1), 1) := by decide +kernel
theorem dX4_ofArea_9 : decode cX4_ofArea 9 = .ok (.ireturn, 1) := by decide +kernel
theorem dX4_ofArea_10 : decode cX4_ofArea 10 = .ok (.aload_n 0, 1) := by decide +kernel
theorem dX4_ofArea_11 : decode cX4_ofArea 11 = .ok (.invokevirtual 164, 3) := by decide +kernel
theorem dX4_ofArea_14 : decode cX4_ofArea 14 = .ok (.iload_n 2, 1) := by decide +kernel
theorem dX4_ofArea_15 : decode cX4_ofArea 15 = .ok (.tableswitch 155 0 12 #[65, 72, 79, 86, 92, 99, 106, 112, 118, 124, 133, 140, 147], 65) := by decide +kernel
theorem dX4_ofArea_80 : decode cX4_ofArea 80 = .ok (.aload_n 0, 1) := by decide +kernel
theorem dX4_ofArea_81 : decode cX4_ofArea 81 = .ok (.getfield 19, 3) := by decide +kernel
theorem dX4_ofArea_84 : decode cX4_ofArea 84 = .ok (.iload_n 1, 1) := by decide +kernel
theorem dX4_ofArea_85 : decode cX4_ofArea 85 = .ok (.iaload, 1) := by decide +kernel
theorem dX4_ofArea_86 : decode cX4_ofArea 86 = .ok (.ireturn, 1) := by decide +kernel
theorem dX4_ofArea_87 : decode cX4_ofArea 87 = .ok (.aload_n 0, 1) := by decide +kernel
theorem dX4_ofArea_88 : decode cX4_ofArea 88 = .ok (.getfield 22, 3) := by decide +kernel
theorem dX4_ofArea_91 : decode cX4_ofArea 91 = .ok (.iload_n 1, 1) := by decide +kernel
theorem dX4_ofArea_92 : decode cX4_ofArea 92 = .ok (.iaload, 1) := by decide +kernel
theorem dX4_ofArea_93 : decode cX4_ofArea 93 = .ok (.ireturn, 1) := by decide +kernel
theorem dX4_ofArea_94 : decode cX4_ofArea 94 = .ok (.aload_n 0, 1) := by decide +kernel
theorem dX4_ofArea_95 : decode cX4_ofArea 95 = .ok (.getfield 25, 3) := by decide +kernel
theorem dX4_ofArea_98 : decode cX4_ofArea 98 = .ok (.iload_n 1, 1) := by decide +kernel
theorem dX4_ofArea_99 : decode cX4_ofArea 99 = .ok (.iaload, 1) := by decide +kernel
theorem dX4_ofArea_100 : decode cX4_ofArea 100 = .ok (.ireturn, 1) := by decide +kernel
theorem dX4_ofArea_101 : decode cX4_ofArea 101 = .ok (.aload_n 0, 1) := by decide +kernel
theorem dX4_ofArea_102 : decode cX4_ofArea 102 = .ok (.iload_n 1, 1) := by decide +kernel
theorem dX4_ofArea_103 : decode cX4_ofArea 103 = .ok (.invokevirtual 142, 3) := by decide +kernel
theorem dX4_ofArea_106 : decode cX4_ofArea 106 = .ok (.ireturn, 1) := by decide +kernel
theorem dX4_ofArea_107 : decode cX4_ofArea 107 = .ok (.aload_n 0, 1) := by decide +kernel
theorem dX4_ofArea_108 : decode cX4_ofArea 108 = .ok (.getfield 49, 3) := by decide +kernel
theorem dX4_ofArea_111 : decode cX4_ofArea 111 = .ok (.iload_n 1, 1) := by decide +kernel
theorem dX4_ofArea_112 : decode cX4_ofArea 112 = .ok (.iaload, 1) := by decide +kernel
theorem dX4_ofArea_113 : decode cX4_ofArea 113 = .ok (.ireturn, 1) := by decide +kernel
theorem dX4_ofArea_114 : decode cX4_ofArea 114 = .ok (.aload_n 0, 1) := by decide +kernel
theorem dX4_ofArea_115 : decode cX4_ofArea 115 = .ok (.getfield 52, 3) := by decide +kernel
theorem dX4_ofArea_118 : decode cX4_ofArea 118 = .ok (.iload_n 1, 1) := by decide +kernel
theorem dX4_ofArea_119 : decode cX4_ofArea 119 = .ok (.iaload, 1) := by decide +kernel
theorem dX4_ofArea_120 : decode cX4_ofArea 120 = .ok (.ireturn, 1) := by decide +kernel
theorem dX4_ofArea_121 : decode cX4_ofArea 121 = .ok (.aload_n 0, 1) := by decide +kernel
theorem dX4_ofArea_122 : decode cX4_ofArea 122 = .ok (.iload_n 1, 1) := by decide +kernel
theorem dX4_ofArea_123 : decode cX4_ofArea 123 = .ok (.invokevirtual 176, 3) := by decide +kernel
theorem dX4_ofArea_126 : decode cX4_ofArea 126 = .ok (.ireturn, 1) := by decide +kernel
theorem dX4_ofArea_127 : decode cX4_ofArea 127 = .ok (.aload_n 0, 1) := by decide +kernel
theorem dX4_ofArea_128 : decode cX4_ofArea 128 = .ok (.iload_n 1, 1) := by decide +kernel
theorem dX4_ofArea_129 : decode cX4_ofArea 129 = .ok (.invokevirtual 179, 3) := by decide +kernel
theorem dX4_ofArea_132 : decode cX4_ofArea 132 = .ok (.ireturn, 1) := by decide +kernel
theorem dX4_ofArea_133 : decode cX4_ofArea 133 = .ok (.aload_n 0, 1) := by decide +kernel
theorem dX4_ofArea_134 : decode cX4_ofArea 134 = .ok (.iload_n 1, 1) := by decide +kernel
theorem dX4_ofArea_135 : decode cX4_ofArea 135 = .ok (.invokevirtual 158, 3) := by decide +kernel
theorem dX4_ofArea_138 : decode cX4_ofArea 138 = .ok (.ireturn, 1) := by decide +kernel
theorem dX4_ofArea_139 : decode cX4_ofArea 139 = .ok (.aload_n 0, 1) := by decide +kernel
theorem dX4_ofArea_140 : decode cX4_ofArea 140 = .ok (.invokevirtual 182, 3) := by decide +kernel
theorem dX4_ofArea_143 : decode cX4_ofArea 143 = .ok (.iload_n 1, 1) := by decide +kernel
theorem dX4_ofArea_144 : decode cX4_ofArea 144 = .ok (.ishr, 1) := by decide +kernel
theorem dX4_ofArea_145 : decode cX4_ofArea 145 = .ok (.iconst 1, 1) := by decide +kernel
theorem dX4_ofArea_146 : decode cX4_ofArea 146 = .ok (.iand, 1) := by decide +kernel
theorem dX4_ofArea_147 : decode cX4_ofArea 147 = .ok (.ireturn, 1) := by decide +kernel
theorem dX4_ofArea_148 : decode cX4_ofArea 148 = .ok (.aload_n 0, 1) := by decide +kernel
theorem dX4_ofArea_149 : decode cX4_ofArea 149 = .ok (.getfield 28, 3) := by decide +kernel
theorem dX4_ofArea_152 : decode cX4_ofArea 152 = .ok (.iload_n 1, 1) := by decide +kernel
theorem dX4_ofArea_153 : decode cX4_ofArea 153 = .ok (.iaload, 1) := by decide +kernel
theorem dX4_ofArea_154 : decode cX4_ofArea 154 = .ok (.ireturn, 1) := by decide +kernel
theorem dX4_ofArea_155 : decode cX4_ofArea 155 = .ok (.aload_n 0, 1) := by decide +kernel
theorem dX4_ofArea_156 : decode cX4_ofArea 156 = .ok (.iconst 0, 1) := by decide +kernel
theorem dX4_ofArea_157 : decode cX4_ofArea 157 = .ok (.iload_n 1, 1) := by decide +kernel
theorem dX4_ofArea_158 : decode cX4_ofArea 158 = .ok (.invokevirtual 132, 3) := by decide +kernel
theorem dX4_ofArea_161 : decode cX4_ofArea 161 = .ok (.ireturn, 1) := by decide +kernel
theorem dX4_ofArea_162 : decode cX4_ofArea 162 = .ok (.aload_n 0, 1) := by decide +kernel
theorem dX4_ofArea_163 : decode cX4_ofArea 163 = .ok (.bipush 6, 2) := by decide +kernel
theorem dX4_ofArea_165 : decode cX4_ofArea 165 = .ok (.iload_n 1, 1) := by decide +kernel
theorem dX4_ofArea_166 : decode cX4_ofArea 166 = .ok (.invokevirtual 132, 3) := by decide +kernel
theorem dX4_ofArea_169 : decode cX4_ofArea 169 = .ok (.ireturn, 1) := by decide +kernel
theorem dX4_ofArea_170 : decode cX4_ofArea 170 = .ok (.bipush (-2), 2) := by decide +kernel
theorem dX4_ofArea_172 : decode cX4_ofArea 172 = .ok (.ireturn, 1) := by decide +kernel
theorem dX4_width_0 : decode cX4_width 0 = .ok (.aload_n 0, 1) := by decide +kernel
theorem dX4_width_1 : decode cX4_width 1 = .ok (.iload_n 1, 1) := by decide +kernel
theorem dX4_width_2 : decode cX4_width 2 = .ok (.invokevirtual 173, 3) := by decide +kernel
theorem dX4_width_5 : decode cX4_width 5 = .ok (.ifCond .ne 5, 3) := by decide +kernel
theorem dX4_width_8 : decode cX4_width 8 = .ok (.iconst (-1), 1) := by decide +kernel
theorem dX4_width_9 : decode cX4_width 9 = .ok (.ireturn, 1) := by decide +kernel
theorem dX4_width_10 : decode cX4_width 10 = .ok (.iload_n 2, 1) := by decide +kernel
theorem dX4_width_11 : decode cX4_width 11 = .ok (.iconst 1, 1) := by decide +kernel
theorem dX4_width_12 : decode cX4_width 12 = .ok (.bipush 9, 2) := by decide +kernel
theorem dX4_width_14 : decode cX4_width 14 = .ok (.invokestatic 82, 3) := by decide +kernel
theorem dX4_width_17 : decode cX4_width 17 = .ok (.ifCond .ne 6, 3) := by decide +kernel
theorem dX4_width_20 : decode cX4_width 20 = .ok (.bipush (-2), 2) := by decide +kernel
theorem dX4_width_22 : decode cX4_width 22 = .ok (.ireturn, 1) := by decide +kernel
theorem dX4_width_23 : decode cX4_width 23 = .ok (.aload_n 0, 1) := by decide +kernel
theorem dX4_width_24 : decode cX4_width 24 = .ok (.getfield 25, 3) := by decide +kernel
theorem dX4_width_27 : decode cX4_width 27 = .ok (.iload_n 1, 1) := by decide +kernel
theorem dX4_width_28 : decode cX4_width 28 = .ok (.iaload, 1) := by decide +kernel
theorem dX4_width_29 : decode cX4_width 29 = .ok (.istore_n 3, 1) := by decide +kernel
theorem dX4_width_30 : decode cX4_width 30 = .ok (.aload_n 0, 1) := by decide +kernel
theorem dX4_width_31 : decode cX4_width 31 = .ok (.getfield 25, 3) := by decide +kernel
theorem dX4_width_34 : decode cX4_width 34 = .ok (.iload_n 1, 1) := by decide +kernel
theorem dX4_width_35 : decode cX4_width 35 = .ok (.iload_n 2, 1) := by decide +kernel
theorem dX4_width_36 : decode cX4_width 36 = .ok (.iastore, 1) := by decide +kernel
theorem dX4_width_37 : decode cX4_width 37 = .ok (.iload_n 3, 1) := by decide +kernel
theorem dX4_width_38 : decode cX4_width 38 = .ok (.ireturn, 1) := by decide +kernel
theorem dX4_plot_0 : decode cX4_plot 0 = .ok (.aload_n 0, 1) := by decide +kernel
theorem dX4_plot_1 : decode cX4_plot 1 = .ok (.iload_n 1, 1) := by decide +kernel
theorem dX4_plot_2 : decode cX4_plot 2 = .ok (.invokevirtual 173, 3) := by decide +kernel
theorem dX4_plot_5 : decode cX4_plot 5 = .ok (.ifCond .ne 5, 3) := by decide +kernel
theorem dX4_plot_8 : decode cX4_plot 8 = .ok (.iconst (-1), 1) := by decide +kernel
theorem dX4_plot_9 : decode cX4_plot 9 = .ok (.ireturn, 1) := by decide +kernel
theorem dX4_plot_10 : decode cX4_plot 10 = .ok (.iload_n 2, 1) := by decide +kernel
theorem dX4_plot_11 : decode cX4_plot 11 = .ok (.iconst 1, 1) := by decide +kernel
theorem dX4_plot_12 : decode cX4_plot 12 = .ok (.bipush 9, 2) := by decide +kernel
theorem dX4_plot_14 : decode cX4_plot 14 = .ok (.invokestatic 82, 3) := by decide +kernel
theorem dX4_plot_17 : decode cX4_plot 17 = .ok (.ifCond .ne 6, 3) := by decide +kernel
theorem dX4_plot_20 : decode cX4_plot 20 = .ok (.bipush (-2), 2) := by decide +kernel
theorem dX4_plot_22 : decode cX4_plot 22 = .ok (.ireturn, 1) := by decide +kernel
theorem dX4_plot_23 : decode cX4_plot 23 = .ok (.aload_n 0, 1) := by decide +kernel
theorem dX4_plot_24 : decode cX4_plot 24 = .ok (.getfield 22, 3) := by decide +kernel
theorem dX4_plot_27 : decode cX4_plot 27 = .ok (.iload_n 1, 1) := by decide +kernel
theorem dX4_plot_28 : decode cX4_plot 28 = .ok (.iaload, 1) := by decide +kernel
theorem dX4_plot_29 : decode cX4_plot 29 = .ok (.istore_n 3, 1) := by decide +kernel
theorem dX4_plot_30 : decode cX4_plot 30 = .ok (.aload_n 0, 1) := by decide +kernel
theorem dX4_plot_31 : decode cX4_plot 31 = .ok (.getfield 22, 3) := by decide +kernel
theorem dX4_plot_34 : decode cX4_plot 34 = .ok (.iload_n 1, 1) := by decide +kernel
theorem dX4_plot_35 : decode cX4_plot 35 = .ok (.iload_n 2, 1) := by decide +kernel
theorem dX4_plot_36 : decode cX4_plot 36 = .ok (.iastore, 1) := by decide +kernel
theorem dX4_plot_37 : decode cX4_plot 37 = .ok (.iload_n 3, 1) := by decide +kernel
theorem dX4_plot_38 : decode cX4_plot 38 = .ok (.ireturn, 1) := by decide +kernel
theorem dX4_turns_0 : decode cX4_turns 0 = .ok (.bipush 6, 2) := by decide +kernel
theorem dX4_turns_2 : decode cX4_turns 2 = .ok (.iload_n 1, 1) := by decide +kernel
theorem dX4_turns_3 : decode cX4_turns 3 = .ok (.imul, 1) := by decide +kernel
theorem dX4_turns_4 : decode cX4_turns 4 = .ok (.iload_n 2, 1) := by decide +kernel
theorem dX4_turns_5 : decode cX4_turns 5 = .ok (.iadd, 1) := by decide +kernel
theorem dX4_turns_6 : decode cX4_turns 6 = .ok (.istore_n 3, 1) := by decide +kernel
theorem dX4_turns_7 : decode cX4_turns 7 = .ok (.aload_n 0, 1) := by decide +kernel
theorem dX4_turns_8 : decode cX4_turns 8 = .ok (.getfield 31, 3) := by decide +kernel
theorem dX4_turns_11 : decode cX4_turns 11 = .ok (.iload_n 3, 1) := by decide +kernel
theorem dX4_turns_12 : decode cX4_turns 12 = .ok (.iaload, 1) := by decide +kernel
theorem dX4_turns_13 : decode cX4_turns 13 = .ok (.istore 4, 2) := by decide +kernel
theorem dX4_turns_15 : decode cX4_turns 15 = .ok (.aload_n 0, 1) := by decide +kernel
theorem dX4_turns_16 : decode cX4_turns 16 = .ok (.getfield 31, 3) := by decide +kernel
theorem dX4_turns_19 : decode cX4_turns 19 = .ok (.iload_n 3, 1) := by decide +kernel
theorem dX4_turns_20 : decode cX4_turns 20 = .ok (.aload_n 0, 1) := by decide +kernel
theorem dX4_turns_21 : decode cX4_turns 21 = .ok (.getfield 31, 3) := by decide +kernel
theorem dX4_turns_24 : decode cX4_turns 24 = .ok (.iload_n 3, 1) := by decide +kernel
theorem dX4_turns_25 : decode cX4_turns 25 = .ok (.iconst 1, 1) := by decide +kernel
theorem dX4_turns_26 : decode cX4_turns 26 = .ok (.iadd, 1) := by decide +kernel
theorem dX4_turns_27 : decode cX4_turns 27 = .ok (.iaload, 1) := by decide +kernel
theorem dX4_turns_28 : decode cX4_turns 28 = .ok (.iastore, 1) := by decide +kernel
theorem dX4_turns_29 : decode cX4_turns 29 = .ok (.aload_n 0, 1) := by decide +kernel
theorem dX4_turns_30 : decode cX4_turns 30 = .ok (.getfield 31, 3) := by decide +kernel
theorem dX4_turns_33 : decode cX4_turns 33 = .ok (.iload_n 3, 1) := by decide +kernel
theorem dX4_turns_34 : decode cX4_turns 34 = .ok (.iconst 1, 1) := by decide +kernel
theorem dX4_turns_35 : decode cX4_turns 35 = .ok (.iadd, 1) := by decide +kernel
theorem dX4_turns_36 : decode cX4_turns 36 = .ok (.iload 4, 2) := by decide +kernel
theorem dX4_turns_38 : decode cX4_turns 38 = .ok (.iastore, 1) := by decide +kernel
theorem dX4_turns_39 : decode cX4_turns 39 = .ok (.return_, 1) := by decide +kernel
theorem dX4_turn_0 : decode cX4_turn 0 = .ok (.iload_n 1, 1) := by decide +kernel
theorem dX4_turn_1 : decode cX4_turn 1 = .ok (.iconst 0, 1) := by decide +kernel
theorem dX4_turn_2 : decode cX4_turn 2 = .ok (.iconst 1, 1) := by decide +kernel
theorem dX4_turn_3 : decode cX4_turn 3 = .ok (.invokestatic 82, 3) := by decide +kernel
theorem dX4_turn_6 : decode cX4_turn 6 = .ok (.ifCond .ne 6, 3) := by decide +kernel
theorem dX4_turn_9 : decode cX4_turn 9 = .ok (.bipush (-2), 2) := by decide +kernel
theorem dX4_turn_11 : decode cX4_turn 11 = .ok (.ireturn, 1) := by decide +kernel
theorem dX4_turn_12 : decode cX4_turn 12 = .ok (.iload_n 2, 1) := by decide +kernel
theorem dX4_turn_13 : decode cX4_turn 13 = .ok (.ifCond .lt 13, 3) := by decide +kernel
theorem dX4_turn_16 : decode cX4_turn 16 = .ok (.iload_n 2, 1) := by decide +kernel
theorem dX4_turn_17 : decode cX4_turn 17 = .ok (.aload_n 0, 1) := by decide +kernel
theorem dX4_turn_18 : decode cX4_turn 18 = .ok (.getfield 86, 3) := by decide +kernel
theorem dX4_turn_21 : decode cX4_turn 21 = .ok (.iconst 2, 1) := by decide +kernel
theorem dX4_turn_22 : decode cX4_turn 22 = .ok (.isub, 1) := by decide +kernel
theorem dX4_turn_23 : decode cX4_turn 23 = .ok (.if_icmp .le 5, 3) := by decide +kernel
theorem dX4_turn_26 : decode cX4_turn 26 = .ok (.iconst (-1), 1) := by decide +kernel
theorem dX4_turn_27 : decode cX4_turn 27 = .ok (.ireturn, 1) := by decide +kernel
theorem dX4_turn_28 : decode cX4_turn 28 = .ok (.aload_n 0, 1) := by decide +kernel
theorem dX4_turn_29 : decode cX4_turn 29 = .ok (.iload_n 1, 1) := by decide +kernel
theorem dX4_turn_30 : decode cX4_turn 30 = .ok (.iload_n 2, 1) := by decide +kernel
theorem dX4_turn_31 : decode cX4_turn 31 = .ok (.invokevirtual 186, 3) := by decide +kernel
theorem dX4_turn_34 : decode cX4_turn 34 = .ok (.aload_n 0, 1) := by decide +kernel
theorem dX4_turn_35 : decode cX4_turn 35 = .ok (.getfield 31, 3) := by decide +kernel
theorem dX4_turn_38 : decode cX4_turn 38 = .ok (.bipush 6, 2) := by decide +kernel
theorem dX4_turn_40 : decode cX4_turn 40 = .ok (.iload_n 1, 1) := by decide +kernel
theorem dX4_turn_41 : decode cX4_turn 41 = .ok (.imul, 1) := by decide +kernel
theorem dX4_turn_42 : decode cX4_turn 42 = .ok (.iload_n 2, 1) := by decide +kernel
theorem dX4_turn_43 : decode cX4_turn 43 = .ok (.iadd, 1) := by decide +kernel
theorem dX4_turn_44 : decode cX4_turn 44 = .ok (.iaload, 1) := by decide +kernel
theorem dX4_turn_45 : decode cX4_turn 45 = .ok (.ireturn, 1) := by decide +kernel
theorem dX4_whole_0 : decode cX4_whole 0 = .ok (.iload_n 1, 1) := by decide +kernel
theorem dX4_whole_1 : decode cX4_whole 1 = .ok (.iconst 0, 1) := by decide +kernel
theorem dX4_whole_2 : decode cX4_whole 2 = .ok (.iconst 5, 1) := by decide +kernel
theorem dX4_whole_3 : decode cX4_whole 3 = .ok (.invokestatic 82, 3) := by decide +kernel
theorem dX4_whole_6 : decode cX4_whole 6 = .ok (.ifCond .ne 6, 3) := by decide +kernel
theorem dX4_whole_9 : decode cX4_whole 9 = .ok (.bipush (-2), 2) := by decide +kernel
theorem dX4_whole_11 : decode cX4_whole 11 = .ok (.ireturn, 1) := by decide +kernel
theorem dX4_whole_12 : decode cX4_whole 12 = .ok (.iload_n 1, 1) := by decide +kernel
theorem dX4_whole_13 : decode cX4_whole 13 = .ok (.iconst 5, 1) := by decide +kernel
theorem dX4_whole_14 : decode cX4_whole 14 = .ok (.if_icmp .ne 8, 3) := by decide +kernel
theorem dX4_whole_17 : decode cX4_whole 17 = .ok (.aload_n 0, 1) := by decide +kernel
theorem dX4_whole_18 : decode cX4_whole 18 = .ok (.getfield 129, 3) := by decide +kernel
theorem dX4_whole_21 : decode cX4_whole 21 = .ok (.ireturn, 1) := by decide +kernel
theorem dX4_whole_22 : decode cX4_whole 22 = .ok (.aload_n 0, 1) := by decide +kernel
theorem dX4_whole_23 : decode cX4_whole 23 = .ok (.getfield 86, 3) := by decide +kernel
theorem dX4_whole_26 : decode cX4_whole 26 = .ok (.ifCond .ne 6, 3) := by decide +kernel
theorem dX4_whole_29 : decode cX4_whole 29 = .ok (.bipush (-3), 2) := by decide +kernel
theorem dX4_whole_31 : decode cX4_whole 31 = .ok (.ireturn, 1) := by decide +kernel
theorem dX4_whole_32 : decode cX4_whole 32 = .ok (.aload_n 0, 1) := by decide +kernel
theorem dX4_whole_33 : decode cX4_whole 33 = .ok (.invokevirtual 164, 3) := by decide +kernel
theorem dX4_whole_36 : decode cX4_whole 36 = .ok (.iload_n 1, 1) := by decide +kernel
theorem dX4_whole_37 : decode cX4_whole 37 = .ok (.ifCond .ne 10, 3) := by decide +kernel
theorem dX4_whole_40 : decode cX4_whole 40 = .ok (.aload_n 0, 1) := by decide +kernel
theorem dX4_whole_41 : decode cX4_whole 41 = .ok (.getfield 136, 3) := by decide +kernel
theorem dX4_whole_44 : decode cX4_whole 44 = .ok (.goto 43, 3) := by decide +kernel
theorem dX4_whole_47 : decode cX4_whole 47 = .ok (.iload_n 1, 1) := by decide +kernel
theorem dX4_whole_48 : decode cX4_whole 48 = .ok (.iconst 1, 1) := by decide +kernel
theorem dX4_whole_49 : decode cX4_whole 49 = .ok (.if_icmp .ne 10, 3) := by decide +kernel
theorem dX4_whole_52 : decode cX4_whole 52 = .ok (.aload_n 0, 1) := by decide +kernel
theorem dX4_whole_53 : decode cX4_whole 53 = .ok (.getfield 139, 3) := by decide +kernel
theorem dX4_whole_56 : decode cX4_whole 56 = .ok (.goto 31, 3) := by decide +kernel
theorem dX4_whole_59 : decode cX4_whole 59 = .ok (.iload_n 1, 1) := by decide +kernel
theorem dX4_whole_60 : decode cX4_whole 60 = .ok (.iconst 2, 1) := by decide +kernel
theorem dX4_whole_61 : decode cX4_whole 61 = .ok (.if_icmp .ne 10, 3) := by decide +kernel
theorem dX4_whole_64 : decode cX4_whole 64 = .ok (.aload_n 0, 1) := by decide +kernel
theorem dX4_whole_65 : decode cX4_whole 65 = .ok (.invokevirtual 190, 3) := by decide +kernel
theorem dX4_whole_68 : decode cX4_whole 68 = .ok (.goto 19, 3) := by decide +kernel
theorem dX4_whole_71 : decode cX4_whole 71 = .ok (.iload_n 1, 1) := by decide +kernel
theorem dX4_whole_72 : decode cX4_whole 72 = .ok (.iconst 3, 1) := by decide +kernel
theorem dX4_whole_73 : decode cX4_whole 73 = .ok (.if_icmp .ne 10, 3) := by decide +kernel
theorem dX4_whole_76 : decode cX4_whole 76 = .ok (.aload_n 0, 1) := by decide +kernel
theorem dX4_whole_77 : decode cX4_whole 77 = .ok (.invokevirtual 193, 3) := by decide +kernel
theorem dX4_whole_80 : decode cX4_whole 80 = .ok (.goto 7, 3) := by decide +kernel
theorem dX4_whole_83 : decode cX4_whole 83 = .ok (.aload_n 0, 1) := by decide +kernel
theorem dX4_whole_84 : decode cX4_whole 84 = .ok (.invokevirtual 182, 3) := by decide +kernel
theorem dX4_whole_87 : decode cX4_whole 87 = .ok (.ireturn, 1) := by decide +kernel
theorem dX4_widestOf_0 : decode cX4_widestOf 0 = .ok (.bipush (-9), 2) := by decide +kernel
theorem dX4_widestOf_2 : decode cX4_widestOf 2 = .ok (.istore_n 2, 1) := by decide +kernel
theorem dX4_widestOf_3 : decode cX4_widestOf 3 = .ok (.iconst 0, 1) := by decide +kernel
theorem dX4_widestOf_4 : decode cX4_widestOf 4 = .ok (.istore_n 3, 1) := by decide +kernel
theorem dX4_widestOf_5 : decode cX4_widestOf 5 = .ok (.iload_n 3, 1) := by decide +kernel
theorem dX4_widestOf_6 : decode cX4_widestOf 6 = .ok (.aload_n 0, 1) := by decide +kernel
theorem dX4_widestOf_7 : decode cX4_widestOf 7 = .ok (.getfield 86, 3) := by decide +kernel
theorem dX4_widestOf_10 : decode cX4_widestOf 10 = .ok (.if_icmp .ge 67, 3) := by decide +kernel
theorem dX4_widestOf_13 : decode cX4_widestOf 13 = .ok (.iload_n 1, 1) := by decide +kernel
theorem dX4_widestOf_14 : decode cX4_widestOf 14 = .ok (.iload_n 3, 1) := by decide +kernel
theorem dX4_widestOf_15 : decode cX4_widestOf 15 = .ok (.ishr, 1) := by decide +kernel
theorem dX4_widestOf_16 : decode cX4_widestOf 16 = .ok (.iconst 1, 1) := by decide +kernel
theorem dX4_widestOf_17 : decode cX4_widestOf 17 = .ok (.iand, 1) := by decide +kernel
theorem dX4_widestOf_18 : decode cX4_widestOf 18 = .ok (.iconst 1, 1) := by decide +kernel
theorem dX4_widestOf_19 : decode cX4_widestOf 19 = .ok (.if_icmp .ne 17, 3) := by decide +kernel
theorem dX4_widestOf_22 : decode cX4_widestOf 22 = .ok (.aload_n 0, 1) := by decide +kernel
theorem dX4_widestOf_23 : decode cX4_widestOf 23 = .ok (.getfield 25, 3) := by decide +kernel
theorem dX4_widestOf_26 : decode cX4_widestOf 26 = .ok (.iload_n 3, 1) := by decide +kernel
theorem dX4_widestOf_27 : decode cX4_widestOf 27 = .ok (.iaload, 1) := by decide +kernel
theorem dX4_widestOf_28 : decode cX4_widestOf 28 = .ok (.iconst 1, 1) := by decide +kernel
theorem dX4_widestOf_29 : decode cX4_widestOf 29 = .ok (.if_icmp .le 7, 3) := by decide +kernel
theorem dX4_widestOf_32 : decode cX4_widestOf 32 = .ok (.iconst 1, 1) := by decide +kernel
theorem dX4_widestOf_33 : decode cX4_widestOf 33 = .ok (.goto 4, 3) := by decide +kernel
theorem dX4_widestOf_36 : decode cX4_widestOf 36 = .ok (.iconst 0, 1) := by decide +kernel
theorem dX4_widestOf_37 : decode cX4_widestOf 37 = .ok (.istore 4, 2) := by decide +kernel
theorem dX4_widestOf_39 : decode cX4_widestOf 39 = .ok (.iload 4, 2) := by decide +kernel
theorem dX4_widestOf_41 : decode cX4_widestOf 41 = .ok (.ifCond .eq 28, 3) := by decide +kernel
theorem dX4_widestOf_44 : decode cX4_widestOf 44 = .ok (.iload_n 2, 1) := by decide +kernel
theorem dX4_widestOf_45 : decode cX4_widestOf 45 = .ok (.bipush (-9), 2) := by decide +kernel
theorem dX4_widestOf_47 : decode cX4_widestOf 47 = .ok (.if_icmp .eq 18, 3) := by decide +kernel
end
section
theorem dX4_widestOf_50 : decode cX4_widestOf 50 = .ok (.aload_n 0, 1) := by decide +kernel
theorem dX4_widestOf_51 : decode cX4_widestOf 51 = .ok (.getfield 25, 3) := by decide +kernel
theorem dX4_widestOf_54 : decode cX4_widestOf 54 = .ok (.iload_n 3, 1) := by decide +kernel
theorem dX4_widestOf_55 : decode cX4_widestOf 55 = .ok (.iaload, 1) := by decide +kernel
theorem dX4_widestOf_56 : decode cX4_widestOf 56 = .ok (.aload_n 0, 1) := by decide +kernel
theorem dX4_widestOf_57 : decode cX4_widestOf 57 = .ok (.getfield 25, 3) := by decide +kernel
theorem dX4_widestOf_60 : decode cX4_widestOf 60 = .ok (.iload_n 2, 1) := by decide +kernel
theorem dX4_widestOf_61 : decode cX4_widestOf 61 = .ok (.iaload, 1) := by decide +kernel
theorem dX4_widestOf_62 : decode cX4_widestOf 62 = .ok (.if_icmp .le 7, 3) := by decide +kernel
theorem dX4_widestOf_65 : decode cX4_widestOf 65 = .ok (.iload_n 3, 1) := by decide +kernel
theorem dX4_widestOf_66 : decode cX4_widestOf 66 = .ok (.goto 4, 3) := by decide +kernel
theorem dX4_widestOf_69 : decode cX4_widestOf 69 = .ok (.iload_n 2, 1) := by decide +kernel
theorem dX4_widestOf_70 : decode cX4_widestOf 70 = .ok (.istore_n 2, 1) := by decide +kernel
theorem dX4_widestOf_71 : decode cX4_widestOf 71 = .ok (.iinc 3 1, 3) := by decide +kernel
theorem dX4_widestOf_74 : decode cX4_widestOf 74 = .ok (.goto (-69), 3) := by decide +kernel
theorem dX4_widestOf_77 : decode cX4_widestOf 77 = .ok (.iload_n 2, 1) := by decide +kernel
theorem dX4_widestOf_78 : decode cX4_widestOf 78 = .ok (.ireturn, 1) := by decide +kernel
theorem dX4_squeeze_0 : decode cX4_squeeze 0 = .ok (.iload_n 1, 1) := by decide +kernel
theorem dX4_squeeze_1 : decode cX4_squeeze 1 = .ok (.iconst 1, 1) := by decide +kernel
theorem dX4_squeeze_2 : decode cX4_squeeze 2 = .ok (.bipush 60, 2) := by decide +kernel
theorem dX4_squeeze_4 : decode cX4_squeeze 4 = .ok (.invokestatic 82, 3) := by decide +kernel
theorem dX4_squeeze_7 : decode cX4_squeeze 7 = .ok (.ifCond .ne 6, 3) := by decide +kernel
theorem dX4_squeeze_10 : decode cX4_squeeze 10 = .ok (.bipush (-2), 2) := by decide +kernel
theorem dX4_squeeze_12 : decode cX4_squeeze 12 = .ok (.ireturn, 1) := by decide +kernel
theorem dX4_squeeze_13 : decode cX4_squeeze 13 = .ok (.aload_n 0, 1) := by decide +kernel
theorem dX4_squeeze_14 : decode cX4_squeeze 14 = .ok (.getfield 86, 3) := by decide +kernel
theorem dX4_squeeze_17 : decode cX4_squeeze 17 = .ok (.ifCond .ne 6, 3) := by decide +kernel
theorem dX4_squeeze_20 : decode cX4_squeeze 20 = .ok (.bipush (-3), 2) := by decide +kernel
theorem dX4_squeeze_22 : decode cX4_squeeze 22 = .ok (.ireturn, 1) := by decide +kernel
theorem dX4_squeeze_23 : decode cX4_squeeze 23 = .ok (.iconst 0, 1) := by decide +kernel
theorem dX4_squeeze_24 : decode cX4_squeeze 24 = .ok (.istore_n 2, 1) := by decide +kernel
theorem dX4_squeeze_25 : decode cX4_squeeze 25 = .ok (.iload_n 2, 1) := by decide +kernel
theorem dX4_squeeze_26 : decode cX4_squeeze 26 = .ok (.aload_n 0, 1) := by decide +kernel
theorem dX4_squeeze_27 : decode cX4_squeeze 27 = .ok (.getfield 86, 3) := by decide +kernel
theorem dX4_squeeze_30 : decode cX4_squeeze 30 = .ok (.if_icmp .ge 21, 3) := by decide +kernel
theorem dX4_squeeze_33 : decode cX4_squeeze 33 = .ok (.aload_n 0, 1) := by decide +kernel
theorem dX4_squeeze_34 : decode cX4_squeeze 34 = .ok (.getfield 58, 3) := by decide +kernel
theorem dX4_squeeze_37 : decode cX4_squeeze 37 = .ok (.iload_n 2, 1) := by decide +kernel
theorem dX4_squeeze_38 : decode cX4_squeeze 38 = .ok (.aload_n 0, 1) := by decide +kernel
theorem dX4_squeeze_39 : decode cX4_squeeze 39 = .ok (.getfield 25, 3) := by decide +kernel
theorem dX4_squeeze_42 : decode cX4_squeeze 42 = .ok (.iload_n 2, 1) := by decide +kernel
theorem dX4_squeeze_43 : decode cX4_squeeze 43 = .ok (.iaload, 1) := by decide +kernel
theorem dX4_squeeze_44 : decode cX4_squeeze 44 = .ok (.iastore, 1) := by decide +kernel
theorem dX4_squeeze_45 : decode cX4_squeeze 45 = .ok (.iinc 2 1, 3) := by decide +kernel
theorem dX4_squeeze_48 : decode cX4_squeeze 48 = .ok (.goto (-23), 3) := by decide +kernel
theorem dX4_squeeze_51 : decode cX4_squeeze 51 = .ok (.iconst 0, 1) := by decide +kernel
theorem dX4_squeeze_52 : decode cX4_squeeze 52 = .ok (.istore_n 2, 1) := by decide +kernel
theorem dX4_squeeze_53 : decode cX4_squeeze 53 = .ok (.aload_n 0, 1) := by decide +kernel
theorem dX4_squeeze_54 : decode cX4_squeeze 54 = .ok (.invokevirtual 182, 3) := by decide +kernel
theorem dX4_squeeze_57 : decode cX4_squeeze 57 = .ok (.istore_n 3, 1) := by decide +kernel
theorem dX4_squeeze_58 : decode cX4_squeeze 58 = .ok (.aload_n 0, 1) := by decide +kernel
theorem dX4_squeeze_59 : decode cX4_squeeze 59 = .ok (.getfield 136, 3) := by decide +kernel
theorem dX4_squeeze_62 : decode cX4_squeeze 62 = .ok (.iload_n 1, 1) := by decide +kernel
theorem dX4_squeeze_63 : decode cX4_squeeze 63 = .ok (.if_icmp .le 100, 3) := by decide +kernel
theorem dX4_squeeze_66 : decode cX4_squeeze 66 = .ok (.aload_n 0, 1) := by decide +kernel
theorem dX4_squeeze_67 : decode cX4_squeeze 67 = .ok (.iload_n 3, 1) := by decide +kernel
theorem dX4_squeeze_68 : decode cX4_squeeze 68 = .ok (.invokevirtual 196, 3) := by decide +kernel
theorem dX4_squeeze_71 : decode cX4_squeeze 71 = .ok (.istore 4, 2) := by decide +kernel
theorem dX4_squeeze_73 : decode cX4_squeeze 73 = .ok (.iload 4, 2) := by decide +kernel
theorem dX4_squeeze_75 : decode cX4_squeeze 75 = .ok (.bipush (-9), 2) := by decide +kernel
theorem dX4_squeeze_77 : decode cX4_squeeze 77 = .ok (.if_icmp .ne 18, 3) := by decide +kernel
theorem dX4_squeeze_80 : decode cX4_squeeze 80 = .ok (.aload_n 0, 1) := by decide +kernel
theorem dX4_squeeze_81 : decode cX4_squeeze 81 = .ok (.iconst 1, 1) := by decide +kernel
theorem dX4_squeeze_82 : decode cX4_squeeze 82 = .ok (.aload_n 0, 1) := by decide +kernel
theorem dX4_squeeze_83 : decode cX4_squeeze 83 = .ok (.getfield 86, 3) := by decide +kernel
theorem dX4_squeeze_86 : decode cX4_squeeze 86 = .ok (.ishl, 1) := by decide +kernel
theorem dX4_squeeze_87 : decode cX4_squeeze 87 = .ok (.iconst 1, 1) := by decide +kernel
theorem dX4_squeeze_88 : decode cX4_squeeze 88 = .ok (.isub, 1) := by decide +kernel
theorem dX4_squeeze_89 : decode cX4_squeeze 89 = .ok (.invokevirtual 196, 3) := by decide +kernel
theorem dX4_squeeze_92 : decode cX4_squeeze 92 = .ok (.goto 5, 3) := by decide +kernel
theorem dX4_squeeze_95 : decode cX4_squeeze 95 = .ok (.iload 4, 2) := by decide +kernel
theorem dX4_squeeze_97 : decode cX4_squeeze 97 = .ok (.istore 4, 2) := by decide +kernel
theorem dX4_squeeze_99 : decode cX4_squeeze 99 = .ok (.iload 4, 2) := by decide +kernel
theorem dX4_squeeze_101 : decode cX4_squeeze 101 = .ok (.bipush (-9), 2) := by decide +kernel
theorem dX4_squeeze_103 : decode cX4_squeeze 103 = .ok (.if_icmp .ne 38, 3) := by decide +kernel
theorem dX4_squeeze_106 : decode cX4_squeeze 106 = .ok (.iconst 0, 1) := by decide +kernel
theorem dX4_squeeze_107 : decode cX4_squeeze 107 = .ok (.istore 5, 2) := by decide +kernel
theorem dX4_squeeze_109 : decode cX4_squeeze 109 = .ok (.iload 5, 2) := by decide +kernel
theorem dX4_squeeze_111 : decode cX4_squeeze 111 = .ok (.aload_n 0, 1) := by decide +kernel
theorem dX4_squeeze_112 : decode cX4_squeeze 112 = .ok (.getfield 86, 3) := by decide +kernel
theorem dX4_squeeze_115 : decode cX4_squeeze 115 = .ok (.if_icmp .ge 23, 3) := by decide +kernel
theorem dX4_squeeze_118 : decode cX4_squeeze 118 = .ok (.aload_n 0, 1) := by decide +kernel
theorem dX4_squeeze_119 : decode cX4_squeeze 119 = .ok (.getfield 25, 3) := by decide +kernel
theorem dX4_squeeze_122 : decode cX4_squeeze 122 = .ok (.iload 5, 2) := by decide +kernel
theorem dX4_squeeze_124 : decode cX4_squeeze 124 = .ok (.aload_n 0, 1) := by decide +kernel
theorem dX4_squeeze_125 : decode cX4_squeeze 125 = .ok (.getfield 58, 3) := by decide +kernel
theorem dX4_squeeze_128 : decode cX4_squeeze 128 = .ok (.iload 5, 2) := by decide +kernel
theorem dX4_squeeze_130 : decode cX4_squeeze 130 = .ok (.iaload, 1) := by decide +kernel
theorem dX4_squeeze_131 : decode cX4_squeeze 131 = .ok (.iastore, 1) := by decide +kernel
theorem dX4_squeeze_132 : decode cX4_squeeze 132 = .ok (.iinc 5 1, 3) := by decide +kernel
theorem dX4_squeeze_135 : decode cX4_squeeze 135 = .ok (.goto (-26), 3) := by decide +kernel
theorem dX4_squeeze_138 : decode cX4_squeeze 138 = .ok (.bipush (-9), 2) := by decide +kernel
theorem dX4_squeeze_140 : decode cX4_squeeze 140 = .ok (.ireturn, 1) := by decide +kernel
theorem dX4_squeeze_141 : decode cX4_squeeze 141 = .ok (.aload_n 0, 1) := by decide +kernel
theorem dX4_squeeze_142 : decode cX4_squeeze 142 = .ok (.getfield 25, 3) := by decide +kernel
theorem dX4_squeeze_145 : decode cX4_squeeze 145 = .ok (.iload 4, 2) := by decide +kernel
theorem dX4_squeeze_147 : decode cX4_squeeze 147 = .ok (.dup2, 1) := by decide +kernel
theorem dX4_squeeze_148 : decode cX4_squeeze 148 = .ok (.iaload, 1) := by decide +kernel
theorem dX4_squeeze_149 : decode cX4_squeeze 149 = .ok (.iconst 1, 1) := by decide +kernel
theorem dX4_squeeze_150 : decode cX4_squeeze 150 = .ok (.isub, 1) := by decide +kernel
theorem dX4_squeeze_151 : decode cX4_squeeze 151 = .ok (.iastore, 1) := by decide +kernel
theorem dX4_squeeze_152 : decode cX4_squeeze 152 = .ok (.iinc 2 1, 3) := by decide +kernel
theorem dX4_squeeze_155 : decode cX4_squeeze 155 = .ok (.aload_n 0, 1) := by decide +kernel
theorem dX4_squeeze_156 : decode cX4_squeeze 156 = .ok (.invokevirtual 182, 3) := by decide +kernel
theorem dX4_squeeze_159 : decode cX4_squeeze 159 = .ok (.istore_n 3, 1) := by decide +kernel
theorem dX4_squeeze_160 : decode cX4_squeeze 160 = .ok (.goto (-102), 3) := by decide +kernel
theorem dX4_squeeze_163 : decode cX4_squeeze 163 = .ok (.iload_n 2, 1) := by decide +kernel
theorem dX4_squeeze_164 : decode cX4_squeeze 164 = .ok (.ireturn, 1) := by decide +kernel
theorem dX4_keep_0 : decode cX4_keep 0 = .ok (.iconst 0, 1) := by decide +kernel
theorem dX4_keep_1 : decode cX4_keep 1 = .ok (.istore_n 1, 1) := by decide +kernel
theorem dX4_keep_2 : decode cX4_keep 2 = .ok (.iload_n 1, 1) := by decide +kernel
theorem dX4_keep_3 : decode cX4_keep 3 = .ok (.bipush 6, 2) := by decide +kernel
theorem dX4_keep_5 : decode cX4_keep 5 = .ok (.if_icmp .ge 36, 3) := by decide +kernel
theorem dX4_keep_8 : decode cX4_keep 8 = .ok (.aload_n 0, 1) := by decide +kernel
theorem dX4_keep_9 : decode cX4_keep 9 = .ok (.getfield 61, 3) := by decide +kernel
theorem dX4_keep_12 : decode cX4_keep 12 = .ok (.iload_n 1, 1) := by decide +kernel
theorem dX4_keep_13 : decode cX4_keep 13 = .ok (.aload_n 0, 1) := by decide +kernel
theorem dX4_keep_14 : decode cX4_keep 14 = .ok (.getfield 22, 3) := by decide +kernel
theorem dX4_keep_17 : decode cX4_keep 17 = .ok (.iload_n 1, 1) := by decide +kernel
theorem dX4_keep_18 : decode cX4_keep 18 = .ok (.iaload, 1) := by decide +kernel
theorem dX4_keep_19 : decode cX4_keep 19 = .ok (.iastore, 1) := by decide +kernel
theorem dX4_keep_20 : decode cX4_keep 20 = .ok (.aload_n 0, 1) := by decide +kernel
theorem dX4_keep_21 : decode cX4_keep 21 = .ok (.getfield 61, 3) := by decide +kernel
theorem dX4_keep_24 : decode cX4_keep 24 = .ok (.bipush 6, 2) := by decide +kernel
theorem dX4_keep_26 : decode cX4_keep 26 = .ok (.iload_n 1, 1) := by decide +kernel
theorem dX4_keep_27 : decode cX4_keep 27 = .ok (.iadd, 1) := by decide +kernel
theorem dX4_keep_28 : decode cX4_keep 28 = .ok (.aload_n 0, 1) := by decide +kernel
theorem dX4_keep_29 : decode cX4_keep 29 = .ok (.getfield 25, 3) := by decide +kernel
theorem dX4_keep_32 : decode cX4_keep 32 = .ok (.iload_n 1, 1) := by decide +kernel
theorem dX4_keep_33 : decode cX4_keep 33 = .ok (.iaload, 1) := by decide +kernel
theorem dX4_keep_34 : decode cX4_keep 34 = .ok (.iastore, 1) := by decide +kernel
theorem dX4_keep_35 : decode cX4_keep 35 = .ok (.iinc 1 1, 3) := by decide +kernel
theorem dX4_keep_38 : decode cX4_keep 38 = .ok (.goto (-36), 3) := by decide +kernel
theorem dX4_keep_41 : decode cX4_keep 41 = .ok (.iconst 0, 1) := by decide +kernel
theorem dX4_keep_42 : decode cX4_keep 42 = .ok (.istore_n 1, 1) := by decide +kernel
theorem dX4_keep_43 : decode cX4_keep 43 = .ok (.iload_n 1, 1) := by decide +kernel
theorem dX4_keep_44 : decode cX4_keep 44 = .ok (.bipush 12, 2) := by decide +kernel
theorem dX4_keep_46 : decode cX4_keep 46 = .ok (.if_icmp .ge 24, 3) := by decide +kernel
theorem dX4_keep_49 : decode cX4_keep 49 = .ok (.aload_n 0, 1) := by decide +kernel
theorem dX4_keep_50 : decode cX4_keep 50 = .ok (.getfield 61, 3) := by decide +kernel
theorem dX4_keep_53 : decode cX4_keep 53 = .ok (.bipush 12, 2) := by decide +kernel
theorem dX4_keep_55 : decode cX4_keep 55 = .ok (.iload_n 1, 1) := by decide +kernel
theorem dX4_keep_56 : decode cX4_keep 56 = .ok (.iadd, 1) := by decide +kernel
theorem dX4_keep_57 : decode cX4_keep 57 = .ok (.aload_n 0, 1) := by decide +kernel
theorem dX4_keep_58 : decode cX4_keep 58 = .ok (.getfield 31, 3) := by decide +kernel
theorem dX4_keep_61 : decode cX4_keep 61 = .ok (.iload_n 1, 1) := by decide +kernel
theorem dX4_keep_62 : decode cX4_keep 62 = .ok (.iaload, 1) := by decide +kernel
theorem dX4_keep_63 : decode cX4_keep 63 = .ok (.iastore, 1) := by decide +kernel
theorem dX4_keep_64 : decode cX4_keep 64 = .ok (.iinc 1 1, 3) := by decide +kernel
theorem dX4_keep_67 : decode cX4_keep 67 = .ok (.goto (-24), 3) := by decide +kernel
theorem dX4_keep_70 : decode cX4_keep 70 = .ok (.return_, 1) := by decide +kernel
theorem dX4_putBack_0 : decode cX4_putBack 0 = .ok (.iconst 0, 1) := by decide +kernel
theorem dX4_putBack_1 : decode cX4_putBack 1 = .ok (.istore_n 1, 1) := by decide +kernel
theorem dX4_putBack_2 : decode cX4_putBack 2 = .ok (.iload_n 1, 1) := by decide +kernel
theorem dX4_putBack_3 : decode cX4_putBack 3 = .ok (.bipush 6, 2) := by decide +kernel
theorem dX4_putBack_5 : decode cX4_putBack 5 = .ok (.if_icmp .ge 36, 3) := by decide +kernel
theorem dX4_putBack_8 : decode cX4_putBack 8 = .ok (.aload_n 0, 1) := by decide +kernel
theorem dX4_putBack_9 : decode cX4_putBack 9 = .ok (.getfield 22, 3) := by decide +kernel
theorem dX4_putBack_12 : decode cX4_putBack 12 = .ok (.iload_n 1, 1) := by decide +kernel
theorem dX4_putBack_13 : decode cX4_putBack 13 = .ok (.aload_n 0, 1) := by decide +kernel
theorem dX4_putBack_14 : decode cX4_putBack 14 = .ok (.getfield 61, 3) := by decide +kernel
theorem dX4_putBack_17 : decode cX4_putBack 17 = .ok (.iload_n 1, 1) := by decide +kernel
theorem dX4_putBack_18 : decode cX4_putBack 18 = .ok (.iaload, 1) := by decide +kernel
theorem dX4_putBack_19 : decode cX4_putBack 19 = .ok (.iastore, 1) := by decide +kernel
theorem dX4_putBack_20 : decode cX4_putBack 20 = .ok (.aload_n 0, 1) := by decide +kernel
theorem dX4_putBack_21 : decode cX4_putBack 21 = .ok (.getfield 25, 3) := by decide +kernel
theorem dX4_putBack_24 : decode cX4_putBack 24 = .ok (.iload_n 1, 1) := by decide +kernel
theorem dX4_putBack_25 : decode cX4_putBack 25 = .ok (.aload_n 0, 1) := by decide +kernel
theorem dX4_putBack_26 : decode cX4_putBack 26 = .ok (.getfield 61, 3) := by decide +kernel
theorem dX4_putBack_29 : decode cX4_putBack 29 = .ok (.bipush 6, 2) := by decide +kernel
theorem dX4_putBack_31 : decode cX4_putBack 31 = .ok (.iload_n 1, 1) := by decide +kernel
theorem dX4_putBack_32 : decode cX4_putBack 32 = .ok (.iadd, 1) := by decide +kernel
theorem dX4_putBack_33 : decode cX4_putBack 33 = .ok (.iaload, 1) := by decide +kernel
theorem dX4_putBack_34 : decode cX4_putBack 34 = .ok (.iastore, 1) := by decide +kernel
theorem dX4_putBack_35 : decode cX4_putBack 35 = .ok (.iinc 1 1, 3) := by decide +kernel
theorem dX4_putBack_38 : decode cX4_putBack 38 = .ok (.goto (-36), 3) := by decide +kernel
theorem dX4_putBack_41 : decode cX4_putBack 41 = .ok (.iconst 0, 1) := by decide +kernel
theorem dX4_putBack_42 : decode cX4_putBack 42 = .ok (.istore_n 1, 1) := by decide +kernel
theorem dX4_putBack_43 : decode cX4_putBack 43 = .ok (.iload_n 1, 1) := by decide +kernel
theorem dX4_putBack_44 : decode cX4_putBack 44 = .ok (.bipush 12, 2) := by decide +kernel
theorem dX4_putBack_46 : decode cX4_putBack 46 = .ok (.if_icmp .ge 24, 3) := by decide +kernel
theorem dX4_putBack_49 : decode cX4_putBack 49 = .ok (.aload_n 0, 1) := by decide +kernel
theorem dX4_putBack_50 : decode cX4_putBack 50 = .ok (.getfield 31, 3) := by decide +kernel
theorem dX4_putBack_53 : decode cX4_putBack 53 = .ok (.iload_n 1, 1) := by decide +kernel
theorem dX4_putBack_54 : decode cX4_putBack 54 = .ok (.aload_n 0, 1) := by decide +kernel
theorem dX4_putBack_55 : decode cX4_putBack 55 = .ok (.getfield 61, 3) := by decide +kernel
theorem dX4_putBack_58 : decode cX4_putBack 58 = .ok (.bipush 12, 2) := by decide +kernel
theorem dX4_putBack_60 : decode cX4_putBack 60 = .ok (.iload_n 1, 1) := by decide +kernel
theorem dX4_putBack_61 : decode cX4_putBack 61 = .ok (.iadd, 1) := by decide +kernel
theorem dX4_putBack_62 : decode cX4_putBack 62 = .ok (.iaload, 1) := by decide +kernel
theorem dX4_putBack_63 : decode cX4_putBack 63 = .ok (.iastore, 1) := by decide +kernel
theorem dX4_putBack_64 : decode cX4_putBack 64 = .ok (.iinc 1 1, 3) := by decide +kernel
theorem dX4_putBack_67 : decode cX4_putBack 67 = .ok (.goto (-24), 3) := by decide +kernel
theorem dX4_putBack_70 : decode cX4_putBack 70 = .ok (.return_, 1) := by decide +kernel
theorem dX4_does_0 : decode cX4_does 0 = .ok (.iload_n 1, 1) := by decide +kernel
theorem dX4_does_1 : decode cX4_does 1 = .ok (.iconst 2, 1) := by decide +kernel
theorem dX4_does_2 : decode cX4_does 2 = .ok (.if_icmp .ne 36, 3) := by decide +kernel
theorem dX4_does_5 : decode cX4_does 5 = .ok (.iload_n 2, 1) := by decide +kernel
theorem dX4_does_6 : decode cX4_does 6 = .ok (.iconst 0, 1) := by decide +kernel
theorem dX4_does_7 : decode cX4_does 7 = .ok (.iconst 1, 1) := by decide +kernel
theorem dX4_does_8 : decode cX4_does 8 = .ok (.invokestatic 82, 3) := by decide +kernel
theorem dX4_does_11 : decode cX4_does 11 = .ok (.ifCond .eq 17, 3) := by decide +kernel
theorem dX4_does_14 : decode cX4_does 14 = .ok (.iload_n 3, 1) := by decide +kernel
theorem dX4_does_15 : decode cX4_does 15 = .ok (.ifCond .lt 13, 3) := by decide +kernel
theorem dX4_does_18 : decode cX4_does 18 = .ok (.iload_n 3, 1) := by decide +kernel
theorem dX4_does_19 : decode cX4_does 19 = .ok (.aload_n 0, 1) := by decide +kernel
theorem dX4_does_20 : decode cX4_does 20 = .ok (.getfield 86, 3) := by decide +kernel
theorem dX4_does_23 : decode cX4_does 23 = .ok (.iconst 2, 1) := by decide +kernel
theorem dX4_does_24 : decode cX4_does 24 = .ok (.isub, 1) := by decide +kernel
theorem dX4_does_25 : decode cX4_does 25 = .ok (.if_icmp .le 5, 3) := by decide +kernel
theorem dX4_does_28 : decode cX4_does 28 = .ok (.iconst 0, 1) := by decide +kernel
theorem dX4_does_29 : decode cX4_does 29 = .ok (.ireturn, 1) := by decide +kernel
theorem dX4_does_30 : decode cX4_does 30 = .ok (.aload_n 0, 1) := by decide +kernel
theorem dX4_does_31 : decode cX4_does 31 = .ok (.iload_n 2, 1) := by decide +kernel
theorem dX4_does_32 : decode cX4_does 32 = .ok (.iload_n 3, 1) := by decide +kernel
theorem dX4_does_33 : decode cX4_does 33 = .ok (.invokevirtual 186, 3) := by decide +kernel
theorem dX4_does_36 : decode cX4_does 36 = .ok (.iconst 1, 1) := by decide +kernel
theorem dX4_does_37 : decode cX4_does 37 = .ok (.ireturn, 1) := by decide +kernel
theorem dX4_does_38 : decode cX4_does 38 = .ok (.aload_n 0, 1) := by decide +kernel
theorem dX4_does_39 : decode cX4_does 39 = .ok (.iload_n 2, 1) := by decide +kernel
theorem dX4_does_40 : decode cX4_does 40 = .ok (.invokevirtual 173, 3) := by decide +kernel
theorem dX4_does_43 : decode cX4_does 43 = .ok (.ifCond .eq 13, 3) := by decide +kernel
theorem dX4_does_46 : decode cX4_does 46 = .ok (.iload_n 3, 1) := by decide +kernel
theorem dX4_does_47 : decode cX4_does 47 = .ok (.iconst 1, 1) := by decide +kernel
theorem dX4_does_48 : decode cX4_does 48 = .ok (.bipush 9, 2) := by decide +kernel
theorem dX4_does_50 : decode cX4_does 50 = .ok (.invokestatic 82, 3) := by decide +kernel
theorem dX4_does_53 : decode cX4_does 53 = .ok (.ifCond .ne 5, 3) := by decide +kernel
theorem dX4_does_56 : decode cX4_does 56 = .ok (.iconst 0, 1) := by decide +kernel
theorem dX4_does_57 : decode cX4_does 57 = .ok (.ireturn, 1) := by decide +kernel
theorem dX4_does_58 : decode cX4_does 58 = .ok (.iload_n 1, 1) := by decide +kernel
theorem dX4_does_59 : decode cX4_does 59 = .ok (.ifCond .ne 13, 3) := by decide +kernel
theorem dX4_does_62 : decode cX4_does 62 = .ok (.aload_n 0, 1) := by decide +kernel
theorem dX4_does_63 : decode cX4_does 63 = .ok (.getfield 25, 3) := by decide +kernel
theorem dX4_does_66 : decode cX4_does 66 = .ok (.iload_n 2, 1) := by decide +kernel
theorem dX4_does_67 : decode cX4_does 67 = .ok (.iload_n 3, 1) := by decide +kernel
theorem dX4_does_68 : decode cX4_does 68 = .ok (.iastore, 1) := by decide +kernel
theorem dX4_does_69 : decode cX4_does 69 = .ok (.goto 10, 3) := by decide +kernel
theorem dX4_does_72 : decode cX4_does 72 = .ok (.aload_n 0, 1) := by decide +kernel
theorem dX4_does_73 : decode cX4_does 73 = .ok (.getfield 22, 3) := by decide +kernel
theorem dX4_does_76 : decode cX4_does 76 = .ok (.iload_n 2, 1) := by decide +kernel
theorem dX4_does_77 : decode cX4_does 77 = .ok (.iload_n 3, 1) := by decide +kernel
theorem dX4_does_78 : decode cX4_does 78 = .ok (.iastore, 1) := by decide +kernel
theorem dX4_does_79 : decode cX4_does 79 = .ok (.iconst 1, 1) := by decide +kernel
theorem dX4_does_80 : decode cX4_does 80 = .ok (.ireturn, 1) := by decide +kernel
theorem dX4_goDay_0 : decode cX4_goDay 0 = .ok (.iconst 0, 1) := by decide +kernel
theorem dX4_goDay_1 : decode cX4_goDay 1 = .ok (.istore_n 3, 1) := by decide +kernel
theorem dX4_goDay_2 : decode cX4_goDay 2 = .ok (.iload_n 3, 1) := by decide +kernel
theorem dX4_goDay_3 : decode cX4_goDay 3 = .ok (.iload_n 2, 1) := by decide +kernel
theorem dX4_goDay_4 : decode cX4_goDay 4 = .ok (.if_icmp .ge 52, 3) := by decide +kernel
theorem dX4_goDay_7 : decode cX4_goDay 7 = .ok (.aload_n 0, 1) := by decide +kernel
theorem dX4_goDay_8 : decode cX4_goDay 8 = .ok (.aload_n 0, 1) := by decide +kernel
theorem dX4_goDay_9 : decode cX4_goDay 9 = .ok (.getfield 16, 3) := by decide +kernel
theorem dX4_goDay_12 : decode cX4_goDay 12 = .ok (.iload_n 1, 1) := by decide +kernel
theorem dX4_goDay_13 : decode cX4_goDay 13 = .ok (.iconst 3, 1) := by decide +kernel
theorem dX4_goDay_14 : decode cX4_goDay 14 = .ok (.iload_n 3, 1) := by decide +kernel
theorem dX4_goDay_15 : decode cX4_goDay 15 = .ok (.imul, 1) := by decide +kernel
theorem dX4_goDay_16 : decode cX4_goDay 16 = .ok (.iadd, 1) := by decide +kernel
theorem dX4_goDay_17 : decode cX4_goDay 17 = .ok (.iaload, 1) := by decide +kernel
theorem dX4_goDay_18 : decode cX4_goDay 18 = .ok (.aload_n 0, 1) := by decide +kernel
theorem dX4_goDay_19 : decode cX4_goDay 19 = .ok (.getfield 16, 3) := by decide +kernel
theorem dX4_goDay_22 : decode cX4_goDay 22 = .ok (.iload_n 1, 1) := by decide +kernel
theorem dX4_goDay_23 : decode cX4_goDay 23 = .ok (.iconst 3, 1) := by decide +kernel
theorem dX4_goDay_24 : decode cX4_goDay 24 = .ok (.iload_n 3, 1) := by decide +kernel
theorem dX4_goDay_25 : decode cX4_goDay 25 = .ok (.imul, 1) := by decide +kernel
theorem dX4_goDay_26 : decode cX4_goDay 26 = .ok (.iadd, 1) := by decide +kernel
theorem dX4_goDay_27 : decode cX4_goDay 27 = .ok (.iconst 1, 1) := by decide +kernel
theorem dX4_goDay_28 : decode cX4_goDay 28 = .ok (.iadd, 1) := by decide +kernel
theorem dX4_goDay_29 : decode cX4_goDay 29 = .ok (.iaload, 1) := by decide +kernel
theorem dX4_goDay_30 : decode cX4_goDay 30 = .ok (.aload_n 0, 1) := by decide +kernel
theorem dX4_goDay_31 : decode cX4_goDay 31 = .ok (.getfield 16, 3) := by decide +kernel
theorem dX4_goDay_34 : decode cX4_goDay 34 = .ok (.iload_n 1, 1) := by decide +kernel
theorem dX4_goDay_35 : decode cX4_goDay 35 = .ok (.iconst 3, 1) := by decide +kernel
theorem dX4_goDay_36 : decode cX4_goDay 36 = .ok (.iload_n 3, 1) := by decide +kernel
theorem dX4_goDay_37 : decode cX4_goDay 37 = .ok (.imul, 1) := by decide +kernel
theorem dX4_goDay_38 : decode cX4_goDay 38 = .ok (.iadd, 1) := by decide +kernel
theorem dX4_goDay_39 : decode cX4_goDay 39 = .ok (.iconst 2, 1) := by decide +kernel
theorem dX4_goDay_40 : decode cX4_goDay 40 = .ok (.iadd, 1) := by decide +kernel
theorem dX4_goDay_41 : decode cX4_goDay 41 = .ok (.iaload, 1) := by decide +kernel
theorem dX4_goDay_42 : decode cX4_goDay 42 = .ok (.invokevirtual 199, 3) := by decide +kernel
theorem dX4_goDay_45 : decode cX4_goDay 45 = .ok (.ifCond .ne 5, 3) := by decide +kernel
theorem dX4_goDay_48 : decode cX4_goDay 48 = .ok (.iload_n 3, 1) := by decide +kernel
theorem dX4_goDay_49 : decode cX4_goDay 49 = .ok (.ireturn, 1) := by decide +kernel
theorem dX4_goDay_50 : decode cX4_goDay 50 = .ok (.iinc 3 1, 3) := by decide +kernel
theorem dX4_goDay_53 : decode cX4_goDay 53 = .ok (.goto (-51), 3) := by decide +kernel
theorem dX4_goDay_56 : decode cX4_goDay 56 = .ok (.bipush (-9), 2) := by decide +kernel
theorem dX4_goDay_58 : decode cX4_goDay 58 = .ok (.ireturn, 1) := by decide +kernel
theorem dX4_day_0 : decode cX4_day 0 = .ok (.aload_n 0, 1) := by decide +kernel
theorem dX4_day_1 : decode cX4_day 1 = .ok (.iconst 0, 1) := by decide +kernel
theorem dX4_day_2 : decode cX4_day 2 = .ok (.putfield 76, 3) := by decide +kernel
theorem dX4_day_5 : decode cX4_day 5 = .ok (.iload_n 1, 1) := by decide +kernel
theorem dX4_day_6 : decode cX4_day 6 = .ok (.invokestatic 92, 3) := by decide +kernel
theorem dX4_day_9 : decode cX4_day 9 = .ok (.ifCond .ne 5, 3) := by decide +kernel
theorem dX4_day_12 : decode cX4_day 12 = .ok (.iconst (-1), 1) := by decide +kernel
theorem dX4_day_13 : decode cX4_day 13 = .ok (.ireturn, 1) := by decide +kernel
theorem dX4_day_14 : decode cX4_day 14 = .ok (.iload_n 2, 1) := by decide +kernel
theorem dX4_day_15 : decode cX4_day 15 = .ok (.invokestatic 96, 3) := by decide +kernel
theorem dX4_day_18 : decode cX4_day 18 = .ok (.ifCond .eq 36, 3) := by decide +kernel
theorem dX4_day_21 : decode cX4_day 21 = .ok (.iload 4, 2) := by decide +kernel
theorem dX4_day_23 : decode cX4_day 23 = .ok (.iconst 0, 1) := by decide +kernel
theorem dX4_day_24 : decode cX4_day 24 = .ok (.bipush 20, 2) := by decide +kernel
theorem dX4_day_26 : decode cX4_day 26 = .ok (.invokestatic 82, 3) := by decide +kernel
theorem dX4_day_29 : decode cX4_day 29 = .ok (.ifCond .eq 25, 3) := by decide +kernel
theorem dX4_day_32 : decode cX4_day 32 = .ok (.iload 5, 2) := by decide +kernel
theorem dX4_day_34 : decode cX4_day 34 = .ok (.iconst 0, 1) := by decide +kernel
theorem dX4_day_35 : decode cX4_day 35 = .ok (.iconst 4, 1) := by decide +kernel
theorem dX4_day_36 : decode cX4_day 36 = .ok (.invokestatic 82, 3) := by decide +kernel
theorem dX4_day_39 : decode cX4_day 39 = .ok (.ifCond .ne 18, 3) := by decide +kernel
theorem dX4_day_42 : decode cX4_day 42 = .ok (.iload 5, 2) := by decide +kernel
theorem dX4_day_44 : decode cX4_day 44 = .ok (.bipush 10, 2) := by decide +kernel
theorem dX4_day_46 : decode cX4_day 46 = .ok (.bipush 15, 2) := by decide +kernel
theorem dX4_day_48 : decode cX4_day 48 = .ok (.invokestatic 82, 3) := by decide +kernel
theorem dX4_day_51 : decode cX4_day 51 = .ok (.ifCond .ne 6, 3) := by decide +kernel
theorem dX4_day_54 : decode cX4_day 54 = .ok (.bipush (-2), 2) := by decide +kernel
theorem dX4_day_56 : decode cX4_day 56 = .ok (.ireturn, 1) := by decide +kernel
theorem dX4_day_57 : decode cX4_day 57 = .ok (.aload_n 0, 1) := by decide +kernel
theorem dX4_day_58 : decode cX4_day 58 = .ok (.iload_n 1, 1) := by decide +kernel
theorem dX4_day_59 : decode cX4_day 59 = .ok (.iload_n 2, 1) := by decide +kernel
theorem dX4_day_60 : decode cX4_day 60 = .ok (.iload_n 3, 1) := by decide +kernel
theorem dX4_day_61 : decode cX4_day 61 = .ok (.iconst 3, 1) := by decide +kernel
theorem dX4_day_62 : decode cX4_day 62 = .ok (.iload 4, 2) := by decide +kernel
theorem dX4_day_64 : decode cX4_day 64 = .ok (.imul, 1) := by decide +kernel
theorem dX4_day_65 : decode cX4_day 65 = .ok (.invokevirtual 99, 3) := by decide +kernel
theorem dX4_day_68 : decode cX4_day 68 = .ok (.istore 6, 2) := by decide +kernel
theorem dX4_day_70 : decode cX4_day 70 = .ok (.iload 6, 2) := by decide +kernel
theorem dX4_day_72 : decode cX4_day 72 = .ok (.ifCond .eq 10, 3) := by decide +kernel
theorem dX4_day_75 : decode cX4_day 75 = .ok (.aload_n 0, 1) := by decide +kernel
theorem dX4_day_76 : decode cX4_day 76 = .ok (.iload 6, 2) := by decide +kernel
theorem dX4_day_78 : decode cX4_day 78 = .ok (.invokevirtual 103, 3) := by decide +kernel
theorem dX4_day_81 : decode cX4_day 81 = .ok (.ireturn, 1) := by decide +kernel
theorem dX4_day_82 : decode cX4_day 82 = .ok (.aload_n 0, 1) := by decide +kernel
theorem dX4_day_83 : decode cX4_day 83 = .ok (.getfield 86, 3) := by decide +kernel
theorem dX4_day_86 : decode cX4_day 86 = .ok (.ifCond .ne 6, 3) := by decide +kernel
theorem dX4_day_89 : decode cX4_day 89 = .ok (.bipush (-3), 2) := by decide +kernel
theorem dX4_day_91 : decode cX4_day 91 = .ok (.ireturn, 1) := by decide +kernel
theorem dX4_day_92 : decode cX4_day 92 = .ok (.bipush 60, 2) := by decide +kernel
theorem dX4_day_94 : decode cX4_day 94 = .ok (.iload_n 1, 1) := by decide +kernel
theorem dX4_day_95 : decode cX4_day 95 = .ok (.imul, 1) := by decide +kernel
theorem dX4_day_96 : decode cX4_day 96 = .ok (.iload_n 3, 1) := by decide +kernel
theorem dX4_day_97 : decode cX4_day 97 = .ok (.iadd, 1) := by decide +kernel
theorem dX4_day_98 : decode cX4_day 98 = .ok (.istore 7, 2) := by decide +kernel
theorem dX4_day_100 : decode cX4_day 100 = .ok (.iconst 0, 1) := by decide +kernel
theorem dX4_day_101 : decode cX4_day 101 = .ok (.istore 8, 2) := by decide +kernel
theorem dX4_day_103 : decode cX4_day 103 = .ok (.iload 8, 2) := by decide +kernel
theorem dX4_day_105 : decode cX4_day 105 = .ok (.iload 4, 2) := by decide +kernel
theorem dX4_day_107 : decode cX4_day 107 = .ok (.if_icmp .ge 32, 3) := by decide +kernel
theorem dX4_day_110 : decode cX4_day 110 = .ok (.aload_n 0, 1) := by decide +kernel
theorem dX4_day_111 : decode cX4_day 111 = .ok (.getfield 16, 3) := by decide +kernel
theorem dX4_day_114 : decode cX4_day 114 = .ok (.iload 7, 2) := by decide +kernel
theorem dX4_day_116 : decode cX4_day 116 = .ok (.iconst 3, 1) := by decide +kernel
theorem dX4_day_117 : decode cX4_day 117 = .ok (.iload 8, 2) := by decide +kernel
theorem dX4_day_119 : decode cX4_day 119 = .ok (.imul, 1) := by decide +kernel
theorem dX4_day_120 : decode cX4_day 120 = .ok (.iadd, 1) := by decide +kernel
theorem dX4_day_121 : decode cX4_day 121 = .ok (.iaload, 1) := by decide +kernel
theorem dX4_day_122 : decode cX4_day 122 = .ok (.iconst 0, 1) := by decide +kernel
theorem dX4_day_123 : decode cX4_day 123 = .ok (.iconst 2, 1) := by decide +kernel
theorem dX4_day_124 : decode cX4_day 124 = .ok (.invokestatic 82, 3) := by decide +kernel
theorem dX4_day_127 : decode cX4_day 127 = .ok (.ifCond .ne 6, 3) := by decide +kernel
theorem dX4_day_130 : decode cX4_day 130 = .ok (.bipush (-2), 2) := by decide +kernel
theorem dX4_day_132 : decode cX4_day 132 = .ok (.ireturn, 1) := by decide +kernel
theorem dX4_day_133 : decode cX4_day 133 = .ok (.iinc 8 1, 3) := by decide +kernel
theorem dX4_day_136 : decode cX4_day 136 = .ok (.goto (-33), 3) := by decide +kernel
theorem dX4_day_139 : decode cX4_day 139 = .ok (.aload_n 0, 1) := by decide +kernel
theorem dX4_day_140 : decode cX4_day 140 = .ok (.invokevirtual 202, 3) := by decide +kernel
theorem dX4_day_143 : decode cX4_day 143 = .ok (.aload_n 0, 1) := by decide +kernel
theorem dX4_day_144 : decode cX4_day 144 = .ok (.iload 7, 2) := by decide +kernel
theorem dX4_day_146 : decode cX4_day 146 = .ok (.iload 4, 2) := by decide +kernel
theorem dX4_day_148 : decode cX4_day 148 = .ok (.invokevirtual 205, 3) := by decide +kernel
theorem dX4_day_151 : decode cX4_day 151 = .ok (.istore 8, 2) := by decide +kernel
theorem dX4_day_153 : decode cX4_day 153 = .ok (.aload_n 0, 1) := by decide +kernel
theorem dX4_day_154 : decode cX4_day 154 = .ok (.iload 5, 2) := by decide +kernel
theorem dX4_day_156 : decode cX4_day 156 = .ok (.invokevirtual 208, 3) := by decide +kernel
theorem dX4_day_159 : decode cX4_day 159 = .ok (.istore 9, 2) := by decide +kernel
theorem dX4_day_161 : decode cX4_day 161 = .ok (.aload_n 0, 1) := by decide +kernel
theorem dX4_day_162 : decode cX4_day 162 = .ok (.invokevirtual 211, 3) := by decide +kernel
theorem dX4_day_165 : decode cX4_day 165 = .ok (.iload 5, 2) := by decide +kernel
theorem dX4_day_167 : decode cX4_day 167 = .ok (.iconst 1, 1) := by decide +kernel
theorem dX4_day_168 : decode cX4_day 168 = .ok (.if_icmp .ne 8, 3) := by decide +kernel
theorem dX4_day_171 : decode cX4_day 171 = .ok (.iload 8, 2) := by decide +kernel
theorem dX4_day_173 : decode cX4_day 173 = .ok (.goto 20, 3) := by decide +kernel
theorem dX4_day_176 : decode cX4_day 176 = .ok (.iload 8, 2) := by decide +kernel
theorem dX4_day_178 : decode cX4_day 178 = .ok (.bipush (-9), 2) := by decide +kernel
theorem dX4_day_180 : decode cX4_day 180 = .ok (.if_icmp .ne 8, 3) := by decide +kernel
theorem dX4_day_183 : decode cX4_day 183 = .ok (.iload 9, 2) := by decide +kernel
theorem dX4_day_185 : decode cX4_day 185 = .ok (.goto 8, 3) := by decide +kernel
theorem dX4_day_188 : decode cX4_day 188 = .ok (.bipush (-100), 2) := by decide +kernel
theorem dX4_day_190 : decode cX4_day 190 = .ok (.iload 8, 2) := by decide +kernel
theorem dX4_day_192 : decode cX4_day 192 = .ok (.isub, 1) := by decide +kernel
theorem dX4_day_193 : decode cX4_day 193 = .ok (.ireturn, 1) := by decide +kernel
theorem dX4_tellDay_0 : decode cX4_tellDay 0 = .ok (.aload_n 0, 1) := by decide +kernel
theorem dX4_tellDay_1 : decode cX4_tellDay 1 = .ok (.invokevirtual 164, 3) := by decide +kernel
theorem dX4_tellDay_4 : decode cX4_tellDay 4 = .ok (.iload_n 1, 1) := by decide +kernel
theorem dX4_tellDay_5 : decode cX4_tellDay 5 = .ok (.bipush 10, 2) := by decide +kernel
theorem dX4_tellDay_7 : decode cX4_tellDay 7 = .ok (.if_icmp .lt 29, 3) := by decide +kernel
theorem dX4_tellDay_10 : decode cX4_tellDay 10 = .ok (.aload_n 0, 1) := by decide +kernel
theorem dX4_tellDay_11 : decode cX4_tellDay 11 = .ok (.iload_n 1, 1) := by decide +kernel
theorem dX4_tellDay_12 : decode cX4_tellDay 12 = .ok (.bipush 10, 2) := by decide +kernel
theorem dX4_tellDay_14 : decode cX4_tellDay 14 = .ok (.isub, 1) := by decide +kernel
theorem dX4_tellDay_15 : decode cX4_tellDay 15 = .ok (.invokevirtual 173, 3) := by decide +kernel
theorem dX4_tellDay_18 : decode cX4_tellDay 18 = .ok (.ifCond .eq 15, 3) := by decide +kernel
theorem dX4_tellDay_21 : decode cX4_tellDay 21 = .ok (.aload_n 0, 1) := by decide +kernel
theorem dX4_tellDay_22 : decode cX4_tellDay 22 = .ok (.getfield 49, 3) := by decide +kernel
theorem dX4_tellDay_25 : decode cX4_tellDay 25 = .ok (.iload_n 1, 1) := by decide +kernel
theorem dX4_tellDay_26 : decode cX4_tellDay 26 = .ok (.bipush 10, 2) := by decide +kernel
theorem dX4_tellDay_28 : decode cX4_tellDay 28 = .ok (.isub, 1) := by decide +kernel
theorem dX4_tellDay_29 : decode cX4_tellDay 29 = .ok (.iaload, 1) := by decide +kernel
theorem dX4_tellDay_30 : decode cX4_tellDay 30 = .ok (.goto 5, 3) := by decide +kernel
theorem dX4_tellDay_33 : decode cX4_tellDay 33 = .ok (.bipush (-9), 2) := by decide +kernel
theorem dX4_tellDay_35 : decode cX4_tellDay 35 = .ok (.ireturn, 1) := by decide +kernel
theorem dX4_tellDay_36 : decode cX4_tellDay 36 = .ok (.iload_n 1, 1) := by decide +kernel
theorem dX4_tellDay_37 : decode cX4_tellDay 37 = .ok (.ifCond .ne 10, 3) := by decide +kernel
theorem dX4_tellDay_40 : decode cX4_tellDay 40 = .ok (.aload_n 0, 1) := by decide +kernel
theorem dX4_tellDay_41 : decode cX4_tellDay 41 = .ok (.getfield 136, 3) := by decide +kernel
theorem dX4_tellDay_44 : decode cX4_tellDay 44 = .ok (.goto 31, 3) := by decide +kernel
theorem dX4_tellDay_47 : decode cX4_tellDay 47 = .ok (.iload_n 1, 1) := by decide +kernel
theorem dX4_tellDay_48 : decode cX4_tellDay 48 = .ok (.iconst 2, 1) := by decide +kernel
theorem dX4_tellDay_49 : decode cX4_tellDay 49 = .ok (.if_icmp .ne 10, 3) := by decide +kernel
theorem dX4_tellDay_52 : decode cX4_tellDay 52 = .ok (.aload_n 0, 1) := by decide +kernel
theorem dX4_tellDay_53 : decode cX4_tellDay 53 = .ok (.getfield 139, 3) := by decide +kernel
theorem dX4_tellDay_56 : decode cX4_tellDay 56 = .ok (.goto 19, 3) := by decide +kernel
theorem dX4_tellDay_59 : decode cX4_tellDay 59 = .ok (.iload_n 1, 1) := by decide +kernel
theorem dX4_tellDay_60 : decode cX4_tellDay 60 = .ok (.iconst 3, 1) := by decide +kernel
theorem dX4_tellDay_61 : decode cX4_tellDay 61 = .ok (.if_icmp .ne 10, 3) := by decide +kernel
theorem dX4_tellDay_64 : decode cX4_tellDay 64 = .ok (.aload_n 0, 1) := by decide +kernel
theorem dX4_tellDay_65 : decode cX4_tellDay 65 = .ok (.invokevirtual 190, 3) := by decide +kernel
theorem dX4_tellDay_68 : decode cX4_tellDay 68 = .ok (.goto 7, 3) := by decide +kernel
theorem dX4_tellDay_71 : decode cX4_tellDay 71 = .ok (.aload_n 0, 1) := by decide +kernel
theorem dX4_tellDay_72 : decode cX4_tellDay 72 = .ok (.invokevirtual 193, 3) := by decide +kernel
theorem dX4_tellDay_75 : decode cX4_tellDay 75 = .ok (.ireturn, 1) := by decide +kernel
theorem dX4_goesOn_0 : decode cX4_goesOn 0 = .ok (.aload_n 0, 1) := by decide +kernel
theorem dX4_goesOn_1 : decode cX4_goesOn 1 = .ok (.getfield 86, 3) := by decide +kernel
theorem dX4_goesOn_4 : decode cX4_goesOn 4 = .ok (.iconst 2, 1) := by decide +kernel
theorem dX4_goesOn_5 : decode cX4_goesOn 5 = .ok (.isub, 1) := by decide +kernel
theorem dX4_goesOn_6 : decode cX4_goesOn 6 = .ok (.istore_n 1, 1) := by decide +kernel
theorem dX4_goesOn_7 : decode cX4_goesOn 7 = .ok (.iload_n 1, 1) := by decide +kernel
theorem dX4_goesOn_8 : decode cX4_goesOn 8 = .ok (.ifCond .lt 32, 3) := by decide +kernel
theorem dX4_goesOn_11 : decode cX4_goesOn 11 = .ok (.aload_n 0, 1) := by decide +kernel
theorem dX4_goesOn_12 : decode cX4_goesOn 12 = .ok (.getfield 31, 3) := by decide +kernel
theorem dX4_goesOn_15 : decode cX4_goesOn 15 = .ok (.bipush 6, 2) := by decide +kernel
theorem dX4_goesOn_17 : decode cX4_goesOn 17 = .ok (.iload_n 1, 1) := by decide +kernel
theorem dX4_goesOn_18 : decode cX4_goesOn 18 = .ok (.iadd, 1) := by decide +kernel
theorem dX4_goesOn_19 : decode cX4_goesOn 19 = .ok (.iaload, 1) := by decide +kernel
theorem dX4_goesOn_20 : decode cX4_goesOn 20 = .ok (.aload_n 0, 1) := by decide +kernel
theorem dX4_goesOn_21 : decode cX4_goesOn 21 = .ok (.getfield 31, 3) := by decide +kernel
theorem dX4_goesOn_24 : decode cX4_goesOn 24 = .ok (.bipush 6, 2) := by decide +kernel
theorem dX4_goesOn_26 : decode cX4_goesOn 26 = .ok (.iload_n 1, 1) := by decide +kernel
theorem dX4_goesOn_27 : decode cX4_goesOn 27 = .ok (.iadd, 1) := by decide +kernel
theorem dX4_goesOn_28 : decode cX4_goesOn 28 = .ok (.iconst 1, 1) := by decide +kernel
theorem dX4_goesOn_29 : decode cX4_goesOn 29 = .ok (.iadd, 1) := by decide +kernel
theorem dX4_goesOn_30 : decode cX4_goesOn 30 = .ok (.iaload, 1) := by decide +kernel
theorem dX4_goesOn_31 : decode cX4_goesOn 31 = .ok (.if_icmp .le 9, 3) := by decide +kernel
theorem dX4_goesOn_34 : decode cX4_goesOn 34 = .ok (.iinc 1 (-1), 3) := by decide +kernel
theorem dX4_goesOn_37 : decode cX4_goesOn 37 = .ok (.goto (-30), 3) := by decide +kernel
theorem dX4_goesOn_40 : decode cX4_goesOn 40 = .ok (.iload_n 1, 1) := by decide +kernel
theorem dX4_goesOn_41 : decode cX4_goesOn 41 = .ok (.ifCond .ge 5, 3) := by decide +kernel
theorem dX4_goesOn_44 : decode cX4_goesOn 44 = .ok (.iconst 0, 1) := by decide +kernel
theorem dX4_goesOn_45 : decode cX4_goesOn 45 = .ok (.ireturn, 1) := by decide +kernel
theorem dX4_goesOn_46 : decode cX4_goesOn 46 = .ok (.aload_n 0, 1) := by decide +kernel
theorem dX4_goesOn_47 : decode cX4_goesOn 47 = .ok (.getfield 86, 3) := by decide +kernel
theorem dX4_goesOn_50 : decode cX4_goesOn 50 = .ok (.iconst 1, 1) := by decide +kernel
theorem dX4_goesOn_51 : decode cX4_goesOn 51 = .ok (.isub, 1) := by decide +kernel
theorem dX4_goesOn_52 : decode cX4_goesOn 52 = .ok (.istore_n 2, 1) := by decide +kernel
theorem dX4_goesOn_53 : decode cX4_goesOn 53 = .ok (.aload_n 0, 1) := by decide +kernel
theorem dX4_goesOn_54 : decode cX4_goesOn 54 = .ok (.getfield 31, 3) := by decide +kernel
theorem dX4_goesOn_57 : decode cX4_goesOn 57 = .ok (.bipush 6, 2) := by decide +kernel
theorem dX4_goesOn_59 : decode cX4_goesOn 59 = .ok (.iload_n 2, 1) := by decide +kernel
theorem dX4_goesOn_60 : decode cX4_goesOn 60 = .ok (.iadd, 1) := by decide +kernel
theorem dX4_goesOn_61 : decode cX4_goesOn 61 = .ok (.iaload, 1) := by decide +kernel
theorem dX4_goesOn_62 : decode cX4_goesOn 62 = .ok (.aload_n 0, 1) := by decide +kernel
theorem dX4_goesOn_63 : decode cX4_goesOn 63 = .ok (.getfield 31, 3) := by decide +kernel
theorem dX4_goesOn_66 : decode cX4_goesOn 66 = .ok (.bipush 6, 2) := by decide +kernel
theorem dX4_goesOn_68 : decode cX4_goesOn 68 = .ok (.iload_n 1, 1) := by decide +kernel
theorem dX4_goesOn_69 : decode cX4_goesOn 69 = .ok (.iadd, 1) := by decide +kernel
theorem dX4_goesOn_70 : decode cX4_goesOn 70 = .ok (.iaload, 1) := by decide +kernel
theorem dX4_goesOn_71 : decode cX4_goesOn 71 = .ok (.if_icmp .ge 9, 3) := by decide +kernel
theorem dX4_goesOn_74 : decode cX4_goesOn 74 = .ok (.iinc 2 (-1), 3) := by decide +kernel
theorem dX4_goesOn_77 : decode cX4_goesOn 77 = .ok (.goto (-24), 3) := by decide +kernel
theorem dX4_goesOn_80 : decode cX4_goesOn 80 = .ok (.aload_n 0, 1) := by decide +kernel
theorem dX4_goesOn_81 : decode cX4_goesOn 81 = .ok (.getfield 31, 3) := by decide +kernel
theorem dX4_goesOn_84 : decode cX4_goesOn 84 = .ok (.bipush 6, 2) := by decide +kernel
theorem dX4_goesOn_86 : decode cX4_goesOn 86 = .ok (.iload_n 1, 1) := by decide +kernel
theorem dX4_goesOn_87 : decode cX4_goesOn 87 = .ok (.iadd, 1) := by decide +kernel
theorem dX4_goesOn_88 : decode cX4_goesOn 88 = .ok (.iaload, 1) := by decide +kernel
theorem dX4_goesOn_89 : decode cX4_goesOn 89 = .ok (.istore_n 3, 1) := by decide +kernel
theorem dX4_goesOn_90 : decode cX4_goesOn 90 = .ok (.aload_n 0, 1) := by decide +kernel
theorem dX4_goesOn_91 : decode cX4_goesOn 91 = .ok (.getfield 31, 3) := by decide +kernel
theorem dX4_goesOn_94 : decode cX4_goesOn 94 = .ok (.bipush 6, 2) := by decide +kernel
theorem dX4_goesOn_96 : decode cX4_goesOn 96 = .ok (.iload_n 1, 1) := by decide +kernel
theorem dX4_goesOn_97 : decode cX4_goesOn 97 = .ok (.iadd, 1) := by decide +kernel
theorem dX4_goesOn_98 : decode cX4_goesOn 98 = .ok (.aload_n 0, 1) := by decide +kernel
theorem dX4_goesOn_99 : decode cX4_goesOn 99 = .ok (.getfield 31, 3) := by decide +kernel
theorem dX4_goesOn_102 : decode cX4_goesOn 102 = .ok (.bipush 6, 2) := by decide +kernel
theorem dX4_goesOn_104 : decode cX4_goesOn 104 = .ok (.iload_n 2, 1) := by decide +kernel
theorem dX4_goesOn_105 : decode cX4_goesOn 105 = .ok (.iadd, 1) := by decide +kernel
theorem dX4_goesOn_106 : decode cX4_goesOn 106 = .ok (.iaload, 1) := by decide +kernel
theorem dX4_goesOn_107 : decode cX4_goesOn 107 = .ok (.iastore, 1) := by decide +kernel
theorem dX4_goesOn_108 : decode cX4_goesOn 108 = .ok (.aload_n 0, 1) := by decide +kernel
theorem dX4_goesOn_109 : decode cX4_goesOn 109 = .ok (.getfield 31, 3) := by decide +kernel
theorem dX4_goesOn_112 : decode cX4_goesOn 112 = .ok (.bipush 6, 2) := by decide +kernel
theorem dX4_goesOn_114 : decode cX4_goesOn 114 = .ok (.iload_n 2, 1) := by decide +kernel
theorem dX4_goesOn_115 : decode cX4_goesOn 115 = .ok (.iadd, 1) := by decide +kernel
theorem dX4_goesOn_116 : decode cX4_goesOn 116 = .ok (.iload_n 3, 1) := by decide +kernel
theorem dX4_goesOn_117 : decode cX4_goesOn 117 = .ok (.iastore, 1) := by decide +kernel
theorem dX4_goesOn_118 : decode cX4_goesOn 118 = .ok (.iload_n 1, 1) := by decide +kernel
theorem dX4_goesOn_119 : decode cX4_goesOn 119 = .ok (.iconst 1, 1) := by decide +kernel
theorem dX4_goesOn_120 : decode cX4_goesOn 120 = .ok (.iadd, 1) := by decide +kernel
theorem dX4_goesOn_121 : decode cX4_goesOn 121 = .ok (.istore 4, 2) := by decide +kernel
theorem dX4_goesOn_123 : decode cX4_goesOn 123 = .ok (.aload_n 0, 1) := by decide +kernel
theorem dX4_goesOn_124 : decode cX4_goesOn 124 = .ok (.getfield 86, 3) := by decide +kernel
theorem dX4_goesOn_127 : decode cX4_goesOn 127 = .ok (.iconst 1, 1) := by decide +kernel
theorem dX4_goesOn_128 : decode cX4_goesOn 128 = .ok (.isub, 1) := by decide +kernel
theorem dX4_goesOn_129 : decode cX4_goesOn 129 = .ok (.istore 5, 2) := by decide +kernel
theorem dX4_goesOn_131 : decode cX4_goesOn 131 = .ok (.iload 4, 2) := by decide +kernel
theorem dX4_goesOn_133 : decode cX4_goesOn 133 = .ok (.iload 5, 2) := by decide +kernel
theorem dX4_goesOn_135 : decode cX4_goesOn 135 = .ok (.if_icmp .ge 20, 3) := by decide +kernel
theorem dX4_goesOn_138 : decode cX4_goesOn 138 = .ok (.aload_n 0, 1) := by decide +kernel
theorem dX4_goesOn_139 : decode cX4_goesOn 139 = .ok (.iload 4, 2) := by decide +kernel
theorem dX4_goesOn_141 : decode cX4_goesOn 141 = .ok (.iload 5, 2) := by decide +kernel
theorem dX4_goesOn_143 : decode cX4_goesOn 143 = .ok (.invokevirtual 214, 3) := by decide +kernel
theorem dX4_goesOn_146 : decode cX4_goesOn 146 = .ok (.iinc 4 1, 3) := by decide +kernel
theorem dX4_goesOn_149 : decode cX4_goesOn 149 = .ok (.iinc 5 (-1), 3) := by decide +kernel
theorem dX4_goesOn_152 : decode cX4_goesOn 152 = .ok (.goto (-21), 3) := by decide +kernel
theorem dX4_goesOn_155 : decode cX4_goesOn 155 = .ok (.iconst 1, 1) := by decide +kernel
theorem dX4_goesOn_156 : decode cX4_goesOn 156 = .ok (.ireturn, 1) := by decide +kernel
theorem dX4_turnsAbout_0 : decode cX4_turnsAbout 0 = .ok (.aload_n 0, 1) := by decide +kernel
theorem dX4_turnsAbout_1 : decode cX4_turnsAbout 1 = .ok (.getfield 31, 3) := by decide +kernel
theorem dX4_turnsAbout_4 : decode cX4_turnsAbout 4 = .ok (.bipush 6, 2) := by decide +kernel
theorem dX4_turnsAbout_6 : decode cX4_turnsAbout 6 = .ok (.iload_n 1, 1) := by decide +kernel
theorem dX4_turnsAbout_7 : decode cX4_turnsAbout 7 = .ok (.iadd, 1) := by decide +kernel
theorem dX4_turnsAbout_8 : decode cX4_turnsAbout 8 = .ok (.iaload, 1) := by decide +kernel
theorem dX4_turnsAbout_9 : decode cX4_turnsAbout 9 = .ok (.istore_n 3, 1) := by decide +kernel
theorem dX4_turnsAbout_10 : decode cX4_turnsAbout 10 = .ok (.aload_n 0, 1) := by decide +kernel
theorem dX4_turnsAbout_11 : decode cX4_turnsAbout 11 = .ok (.getfield 31, 3) := by decide +kernel
theorem dX4_turnsAbout_14 : decode cX4_turnsAbout 14 = .ok (.bipush 6, 2) := by decide +kernel
theorem dX4_turnsAbout_16 : decode cX4_turnsAbout 16 = .ok (.iload_n 1, 1) := by decide +kernel
theorem dX4_turnsAbout_17 : decode cX4_turnsAbout 17 = .ok (.iadd, 1) := by decide +kernel
theorem dX4_turnsAbout_18 : decode cX4_turnsAbout 18 = .ok (.aload_n 0, 1) := by decide +kernel
theorem dX4_turnsAbout_19 : decode cX4_turnsAbout 19 = .ok (.getfield 31, 3) := by decide +kernel
theorem dX4_turnsAbout_22 : decode cX4_turnsAbout 22 = .ok (.bipush 6, 2) := by decide +kernel
theorem dX4_turnsAbout_24 : decode cX4_turnsAbout 24 = .ok (.iload_n 2, 1) := by decide +kernel
theorem dX4_turnsAbout_25 : decode cX4_turnsAbout 25 = .ok (.iadd, 1) := by decide +kernel
theorem dX4_turnsAbout_26 : decode cX4_turnsAbout 26 = .ok (.iaload, 1) := by decide +kernel
theorem dX4_turnsAbout_27 : decode cX4_turnsAbout 27 = .ok (.iastore, 1) := by decide +kernel
theorem dX4_turnsAbout_28 : decode cX4_turnsAbout 28 = .ok (.aload_n 0, 1) := by decide +kernel
theorem dX4_turnsAbout_29 : decode cX4_turnsAbout 29 = .ok (.getfield 31, 3) := by decide +kernel
theorem dX4_turnsAbout_32 : decode cX4_turnsAbout 32 = .ok (.bipush 6, 2) := by decide +kernel
theorem dX4_turnsAbout_34 : decode cX4_turnsAbout 34 = .ok (.iload_n 2, 1) := by decide +kernel
theorem dX4_turnsAbout_35 : decode cX4_turnsAbout 35 = .ok (.iadd, 1) := by decide +kernel
theorem dX4_turnsAbout_36 : decode cX4_turnsAbout 36 = .ok (.iload_n 3, 1) := by decide +kernel
theorem dX4_turnsAbout_37 : decode cX4_turnsAbout 37 = .ok (.iastore, 1) := by decide +kernel
theorem dX4_turnsAbout_38 : decode cX4_turnsAbout 38 = .ok (.return_, 1) := by decide +kernel
theorem dX4_findLeast_0 : decode cX4_findLeast 0 = .ok (.iconst 0, 1) := by decide +kernel
theorem dX4_findLeast_1 : decode cX4_findLeast 1 = .ok (.istore_n 2, 1) := by decide +kernel
theorem dX4_findLeast_2 : decode cX4_findLeast 2 = .ok (.iload_n 2, 1) := by decide +kernel
theorem dX4_findLeast_3 : decode cX4_findLeast 3 = .ok (.aload_n 0, 1) := by decide +kernel
theorem dX4_findLeast_4 : decode cX4_findLeast 4 = .ok (.getfield 86, 3) := by decide +kernel
theorem dX4_findLeast_7 : decode cX4_findLeast 7 = .ok (.if_icmp .ge 34, 3) := by decide +kernel
theorem dX4_findLeast_10 : decode cX4_findLeast 10 = .ok (.aload_n 0, 1) := by decide +kernel
theorem dX4_findLeast_11 : decode cX4_findLeast 11 = .ok (.getfield 64, 3) := by decide +kernel
theorem dX4_findLeast_14 : decode cX4_findLeast 14 = .ok (.iload_n 2, 1) := by decide +kernel
theorem dX4_findLeast_15 : decode cX4_findLeast 15 = .ok (.aload_n 0, 1) := by decide +kernel
theorem dX4_findLeast_16 : decode cX4_findLeast 16 = .ok (.getfield 31, 3) := by decide +kernel
theorem dX4_findLeast_19 : decode cX4_findLeast 19 = .ok (.bipush 6, 2) := by decide +kernel
theorem dX4_findLeast_21 : decode cX4_findLeast 21 = .ok (.iload_n 2, 1) := by decide +kernel
theorem dX4_findLeast_22 : decode cX4_findLeast 22 = .ok (.iadd, 1) := by decide +kernel
theorem dX4_findLeast_23 : decode cX4_findLeast 23 = .ok (.iaload, 1) := by decide +kernel
theorem dX4_findLeast_24 : decode cX4_findLeast 24 = .ok (.iastore, 1) := by decide +kernel
theorem dX4_findLeast_25 : decode cX4_findLeast 25 = .ok (.aload_n 0, 1) := by decide +kernel
theorem dX4_findLeast_26 : decode cX4_findLeast 26 = .ok (.getfield 31, 3) := by decide +kernel
theorem dX4_findLeast_29 : decode cX4_findLeast 29 = .ok (.bipush 6, 2) := by decide +kernel
theorem dX4_findLeast_31 : decode cX4_findLeast 31 = .ok (.iload_n 2, 1) := by decide +kernel
theorem dX4_findLeast_32 : decode cX4_findLeast 32 = .ok (.iadd, 1) := by decide +kernel
theorem dX4_findLeast_33 : decode cX4_findLeast 33 = .ok (.iload_n 2, 1) := by decide +kernel
theorem dX4_findLeast_34 : decode cX4_findLeast 34 = .ok (.iastore, 1) := by decide +kernel
theorem dX4_findLeast_35 : decode cX4_findLeast 35 = .ok (.iinc 2 1, 3) := by decide +kernel
theorem dX4_findLeast_38 : decode cX4_findLeast 38 = .ok (.goto (-36), 3) := by decide +kernel
theorem dX4_findLeast_41 : decode cX4_findLeast 41 = .ok (.aload_n 0, 1) := by decide +kernel
theorem dX4_findLeast_42 : decode cX4_findLeast 42 = .ok (.bipush (-9), 2) := by decide +kernel
theorem dX4_findLeast_44 : decode cX4_findLeast 44 = .ok (.putfield 217, 3) := by decide +kernel
theorem dX4_findLeast_47 : decode cX4_findLeast 47 = .ok (.aload_n 0, 1) := by decide +kernel
theorem dX4_findLeast_48 : decode cX4_findLeast 48 = .ok (.iconst 0, 1) := by decide +kernel
theorem dX4_findLeast_49 : decode cX4_findLeast 49 = .ok (.putfield 220, 3) := by decide +kernel
theorem dX4_findLeast_52 : decode cX4_findLeast 52 = .ok (.aload_n 0, 1) := by decide +kernel
theorem dX4_findLeast_53 : decode cX4_findLeast 53 = .ok (.iconst 0, 1) := by decide +kernel
theorem dX4_findLeast_54 : decode cX4_findLeast 54 = .ok (.putfield 223, 3) := by decide +kernel
theorem dX4_findLeast_57 : decode cX4_findLeast 57 = .ok (.iconst 1, 1) := by decide +kernel
theorem dX4_findLeast_58 : decode cX4_findLeast 58 = .ok (.istore_n 2, 1) := by decide +kernel
theorem dX4_findLeast_59 : decode cX4_findLeast 59 = .ok (.iload_n 2, 1) := by decide +kernel
theorem dX4_findLeast_60 : decode cX4_findLeast 60 = .ok (.ifCond .eq 121, 3) := by decide +kernel
theorem dX4_findLeast_63 : decode cX4_findLeast 63 = .ok (.aload_n 0, 1) := by decide +kernel
theorem dX4_findLeast_64 : decode cX4_findLeast 64 = .ok (.invokevirtual 164, 3) := by decide +kernel
theorem dX4_findLeast_67 : decode cX4_findLeast 67 = .ok (.aload_n 0, 1) := by decide +kernel
theorem dX4_findLeast_68 : decode cX4_findLeast 68 = .ok (.dup, 1) := by decide +kernel
theorem dX4_findLeast_69 : decode cX4_findLeast 69 = .ok (.getfield 220, 3) := by decide +kernel
theorem dX4_findLeast_72 : decode cX4_findLeast 72 = .ok (.iconst 1, 1) := by decide +kernel
theorem dX4_findLeast_73 : decode cX4_findLeast 73 = .ok (.iadd, 1) := by decide +kernel
theorem dX4_findLeast_74 : decode cX4_findLeast 74 = .ok (.putfield 220, 3) := by decide +kernel
theorem dX4_findLeast_77 : decode cX4_findLeast 77 = .ok (.aload_n 0, 1) := by decide +kernel
theorem dX4_findLeast_78 : decode cX4_findLeast 78 = .ok (.dup, 1) := by decide +kernel
theorem dX4_findLeast_79 : decode cX4_findLeast 79 = .ok (.getfield 223, 3) := by decide +kernel
theorem dX4_findLeast_82 : decode cX4_findLeast 82 = .ok (.aload_n 0, 1) := by decide +kernel
theorem dX4_findLeast_83 : decode cX4_findLeast 83 = .ok (.getfield 136, 3) := by decide +kernel
theorem dX4_findLeast_86 : decode cX4_findLeast 86 = .ok (.aload_n 0, 1) := by decide +kernel
theorem dX4_findLeast_87 : decode cX4_findLeast 87 = .ok (.getfield 139, 3) := by decide +kernel
theorem dX4_findLeast_90 : decode cX4_findLeast 90 = .ok (.imul, 1) := by decide +kernel
theorem dX4_findLeast_91 : decode cX4_findLeast 91 = .ok (.iload_n 1, 1) := by decide +kernel
theorem dX4_findLeast_92 : decode cX4_findLeast 92 = .ok (.if_icmp .gt 7, 3) := by decide +kernel
theorem dX4_findLeast_95 : decode cX4_findLeast 95 = .ok (.iconst 1, 1) := by decide +kernel
theorem dX4_findLeast_96 : decode cX4_findLeast 96 = .ok (.goto 4, 3) := by decide +kernel
theorem dX4_findLeast_99 : decode cX4_findLeast 99 = .ok (.iconst 0, 1) := by decide +kernel
theorem dX4_findLeast_100 : decode cX4_findLeast 100 = .ok (.iadd, 1) := by decide +kernel
theorem dX4_findLeast_101 : decode cX4_findLeast 101 = .ok (.putfield 223, 3) := by decide +kernel
theorem dX4_findLeast_104 : decode cX4_findLeast 104 = .ok (.aload_n 0, 1) := by decide +kernel
theorem dX4_findLeast_105 : decode cX4_findLeast 105 = .ok (.getfield 217, 3) := by decide +kernel
theorem dX4_findLeast_108 : decode cX4_findLeast 108 = .ok (.bipush (-9), 2) := by decide +kernel
theorem dX4_findLeast_110 : decode cX4_findLeast 110 = .ok (.if_icmp .eq 19, 3) := by decide +kernel
theorem dX4_findLeast_113 : decode cX4_findLeast 113 = .ok (.aload_n 0, 1) := by decide +kernel
theorem dX4_findLeast_114 : decode cX4_findLeast 114 = .ok (.getfield 136, 3) := by decide +kernel
theorem dX4_findLeast_117 : decode cX4_findLeast 117 = .ok (.aload_n 0, 1) := by decide +kernel
theorem dX4_findLeast_118 : decode cX4_findLeast 118 = .ok (.getfield 139, 3) := by decide +kernel
theorem dX4_findLeast_121 : decode cX4_findLeast 121 = .ok (.imul, 1) := by decide +kernel
theorem dX4_findLeast_122 : decode cX4_findLeast 122 = .ok (.aload_n 0, 1) := by decide +kernel
theorem dX4_findLeast_123 : decode cX4_findLeast 123 = .ok (.getfield 217, 3) := by decide +kernel
theorem dX4_findLeast_126 : decode cX4_findLeast 126 = .ok (.if_icmp .ge 47, 3) := by decide +kernel
theorem dX4_findLeast_129 : decode cX4_findLeast 129 = .ok (.aload_n 0, 1) := by decide +kernel
theorem dX4_findLeast_130 : decode cX4_findLeast 130 = .ok (.aload_n 0, 1) := by decide +kernel
theorem dX4_findLeast_131 : decode cX4_findLeast 131 = .ok (.getfield 136, 3) := by decide +kernel
theorem dX4_findLeast_134 : decode cX4_findLeast 134 = .ok (.aload_n 0, 1) := by decide +kernel
theorem dX4_findLeast_135 : decode cX4_findLeast 135 = .ok (.getfield 139, 3) := by decide +kernel
theorem dX4_findLeast_138 : decode cX4_findLeast 138 = .ok (.imul, 1) := by decide +kernel
theorem dX4_findLeast_139 : decode cX4_findLeast 139 = .ok (.putfield 217, 3) := by decide +kernel
theorem dX4_findLeast_142 : decode cX4_findLeast 142 = .ok (.iconst 0, 1) := by decide +kernel
theorem dX4_findLeast_143 : decode cX4_findLeast 143 = .ok (.istore_n 3, 1) := by decide +kernel
theorem dX4_findLeast_144 : decode cX4_findLeast 144 = .ok (.iload_n 3, 1) := by decide +kernel
theorem dX4_findLeast_145 : decode cX4_findLeast 145 = .ok (.aload_n 0, 1) := by decide +kernel
theorem dX4_findLeast_146 : decode cX4_findLeast 146 = .ok (.getfield 86, 3) := by decide +kernel
theorem dX4_findLeast_149 : decode cX4_findLeast 149 = .ok (.if_icmp .ge 24, 3) := by decide +kernel
theorem dX4_findLeast_152 : decode cX4_findLeast 152 = .ok (.aload_n 0, 1) := by decide +kernel
theorem dX4_findLeast_153 : decode cX4_findLeast 153 = .ok (.getfield 67, 3) := by decide +kernel
theorem dX4_findLeast_156 : decode cX4_findLeast 156 = .ok (.iload_n 3, 1) := by decide +kernel
theorem dX4_findLeast_157 : decode cX4_findLeast 157 = .ok (.aload_n 0, 1) := by decide +kernel
theorem dX4_findLeast_158 : decode cX4_findLeast 158 = .ok (.getfield 31, 3) := by decide +kernel
theorem dX4_findLeast_161 : decode cX4_findLeast 161 = .ok (.bipush 6, 2) := by decide +kernel
theorem dX4_findLeast_163 : decode cX4_findLeast 163 = .ok (.iload_n 3, 1) := by decide +kernel
theorem dX4_findLeast_164 : decode cX4_findLeast 164 = .ok (.iadd, 1) := by decide +kernel
theorem dX4_findLeast_165 : decode cX4_findLeast 165 = .ok (.iaload, 1) := by decide +kernel
theorem dX4_findLeast_166 : decode cX4_findLeast 166 = .ok (.iastore, 1) := by decide +kernel
theorem dX4_findLeast_167 : decode cX4_findLeast 167 = .ok (.iinc 3 1, 3) := by decide +kernel
theorem dX4_findLeast_170 : decode cX4_findLeast 170 = .ok (.goto (-26), 3) := by decide +kernel
theorem dX4_findLeast_173 : decode cX4_findLeast 173 = .ok (.aload_n 0, 1) := by decide +kernel
theorem dX4_findLeast_174 : decode cX4_findLeast 174 = .ok (.invokevirtual 226, 3) := by decide +kernel
theorem dX4_findLeast_177 : decode cX4_findLeast 177 = .ok (.istore_n 2, 1) := by decide +kernel
theorem dX4_findLeast_178 : decode cX4_findLeast 178 = .ok (.goto (-119), 3) := by decide +kernel
theorem dX4_findLeast_181 : decode cX4_findLeast 181 = .ok (.iconst 0, 1) := by decide +kernel
theorem dX4_findLeast_182 : decode cX4_findLeast 182 = .ok (.istore_n 3, 1) := by decide +kernel
theorem dX4_findLeast_183 : decode cX4_findLeast 183 = .ok (.iload_n 3, 1) := by decide +kernel
theorem dX4_findLeast_184 : decode cX4_findLeast 184 = .ok (.aload_n 0, 1) := by decide +kernel
theorem dX4_findLeast_185 : decode cX4_findLeast 185 = .ok (.getfield 86, 3) := by decide +kernel
theorem dX4_findLeast_188 : decode cX4_findLeast 188 = .ok (.if_icmp .ge 24, 3) := by decide +kernel
theorem dX4_findLeast_191 : decode cX4_findLeast 191 = .ok (.aload_n 0, 1) := by decide +kernel
theorem dX4_findLeast_192 : decode cX4_findLeast 192 = .ok (.getfield 31, 3) := by decide +kernel
theorem dX4_findLeast_195 : decode cX4_findLeast 195 = .ok (.bipush 6, 2) := by decide +kernel
theorem dX4_findLeast_197 : decode cX4_findLeast 197 = .ok (.iload_n 3, 1) := by decide +kernel
theorem dX4_findLeast_198 : decode cX4_findLeast 198 = .ok (.iadd, 1) := by decide +kernel
theorem dX4_findLeast_199 : decode cX4_findLeast 199 = .ok (.aload_n 0, 1) := by decide +kernel
theorem dX4_findLeast_200 : decode cX4_findLeast 200 = .ok (.getfield 64, 3) := by decide +kernel
theorem dX4_findLeast_203 : decode cX4_findLeast 203 = .ok (.iload_n 3, 1) := by decide +kernel
theorem dX4_findLeast_204 : decode cX4_findLeast 204 = .ok (.iaload, 1) := by decide +kernel
theorem dX4_findLeast_205 : decode cX4_findLeast 205 = .ok (.iastore, 1) := by decide +kernel
theorem dX4_findLeast_206 : decode cX4_findLeast 206 = .ok (.iinc 3 1, 3) := by decide +kernel
theorem dX4_findLeast_209 : decode cX4_findLeast 209 = .ok (.goto (-26), 3) := by decide +kernel
theorem dX4_findLeast_212 : decode cX4_findLeast 212 = .ok (.return_, 1) := by decide +kernel
theorem dX4_least_0 : decode cX4_least 0 = .ok (.iload_n 1, 1) := by decide +kernel
theorem dX4_least_1 : decode cX4_least 1 = .ok (.iconst (-1), 1) := by decide +kernel
theorem dX4_least_2 : decode cX4_least 2 = .ok (.iconst 5, 1) := by decide +kernel
theorem dX4_least_3 : decode cX4_least 3 = .ok (.invokestatic 82, 3) := by decide +kernel
theorem dX4_least_6 : decode cX4_least 6 = .ok (.ifCond .ne 6, 3) := by decide +kernel
theorem dX4_least_9 : decode cX4_least 9 = .ok (.bipush (-2), 2) := by decide +kernel
theorem dX4_least_11 : decode cX4_least 11 = .ok (.ireturn, 1) := by decide +kernel
theorem dX4_least_12 : decode cX4_least 12 = .ok (.aload_n 0, 1) := by decide +kernel
theorem dX4_least_13 : decode cX4_least 13 = .ok (.getfield 86, 3) := by decide +kernel
theorem dX4_least_16 : decode cX4_least 16 = .ok (.ifCond .ne 6, 3) := by decide +kernel
theorem dX4_least_19 : decode cX4_least 19 = .ok (.bipush (-3), 2) := by decide +kernel
theorem dX4_least_21 : decode cX4_least 21 = .ok (.ireturn, 1) := by decide +kernel
theorem dX4_least_22 : decode cX4_least 22 = .ok (.aload_n 0, 1) := by decide +kernel
theorem dX4_least_23 : decode cX4_least 23 = .ok (.iconst 0, 1) := by decide +kernel
theorem dX4_least_24 : decode cX4_least 24 = .ok (.invokevirtual 230, 3) := by decide +kernel
theorem dX4_least_27 : decode cX4_least 27 = .ok (.iload_n 1, 1) := by decide +kernel
theorem dX4_least_28 : decode cX4_least 28 = .ok (.iconst (-1), 1) := by decide +kernel
theorem dX4_least_29 : decode cX4_least 29 = .ok (.if_icmp .ne 10, 3) := by decide +kernel
theorem dX4_least_32 : decode cX4_least 32 = .ok (.aload_n 0, 1) := by decide +kernel
theorem dX4_least_33 : decode cX4_least 33 = .ok (.getfield 217, 3) := by decide +kernel
theorem dX4_least_36 : decode cX4_least 36 = .ok (.goto 22, 3) := by decide +kernel
theorem dX4_least_39 : decode cX4_least 39 = .ok (.iload_n 1, 1) := by decide +kernel
theorem dX4_least_40 : decode cX4_least 40 = .ok (.aload_n 0, 1) := by decide +kernel
theorem dX4_least_41 : decode cX4_least 41 = .ok (.getfield 86, 3) := by decide +kernel
theorem dX4_least_44 : decode cX4_least 44 = .ok (.if_icmp .ge 12, 3) := by decide +kernel
theorem dX4_least_47 : decode cX4_least 47 = .ok (.aload_n 0, 1) := by decide +kernel
theorem dX4_least_48 : decode cX4_least 48 = .ok (.getfield 67, 3) := by decide +kernel
theorem dX4_least_51 : decode cX4_least 51 = .ok (.iload_n 1, 1) := by decide +kernel
theorem dX4_least_52 : decode cX4_least 52 = .ok (.iaload, 1) := by decide +kernel
theorem dX4_least_53 : decode cX4_least 53 = .ok (.goto 5, 3) := by decide +kernel
theorem dX4_least_56 : decode cX4_least 56 = .ok (.bipush (-9), 2) := by decide +kernel
theorem dX4_least_58 : decode cX4_least 58 = .ok (.ireturn, 1) := by decide +kernel
theorem dX4_wishes_0 : decode cX4_wishes 0 = .ok (.aload_n 0, 1) := by decide +kernel
theorem dX4_wishes_1 : decode cX4_wishes 1 = .ok (.iconst 0, 1) := by decide +kernel
theorem dX4_wishes_2 : decode cX4_wishes 2 = .ok (.putfield 76, 3) := by decide +kernel
theorem dX4_wishes_5 : decode cX4_wishes 5 = .ok (.iload_n 1, 1) := by decide +kernel
theorem dX4_wishes_6 : decode cX4_wishes 6 = .ok (.invokestatic 92, 3) := by decide +kernel
theorem dX4_wishes_9 : decode cX4_wishes 9 = .ok (.ifCond .ne 5, 3) := by decide +kernel
theorem dX4_wishes_12 : decode cX4_wishes 12 = .ok (.iconst (-1), 1) := by decide +kernel
theorem dX4_wishes_13 : decode cX4_wishes 13 = .ok (.ireturn, 1) := by decide +kernel
theorem dX4_wishes_14 : decode cX4_wishes 14 = .ok (.iload_n 2, 1) := by decide +kernel
theorem dX4_wishes_15 : decode cX4_wishes 15 = .ok (.invokestatic 96, 3) := by decide +kernel
theorem dX4_wishes_18 : decode cX4_wishes 18 = .ok (.ifCond .eq 14, 3) := by decide +kernel
theorem dX4_wishes_21 : decode cX4_wishes 21 = .ok (.iload 4, 2) := by decide +kernel
theorem dX4_wishes_23 : decode cX4_wishes 23 = .ok (.iconst 0, 1) := by decide +kernel
theorem dX4_wishes_24 : decode cX4_wishes 24 = .ok (.bipush 20, 2) := by decide +kernel
theorem dX4_wishes_26 : decode cX4_wishes 26 = .ok (.invokestatic 82, 3) := by decide +kernel
theorem dX4_wishes_29 : decode cX4_wishes 29 = .ok (.ifCond .ne 6, 3) := by decide +kernel
theorem dX4_wishes_32 : decode cX4_wishes 32 = .ok (.bipush (-2), 2) := by decide +kernel
theorem dX4_wishes_34 : decode cX4_wishes 34 = .ok (.ireturn, 1) := by decide +kernel
theorem dX4_wishes_35 : decode cX4_wishes 35 = .ok (.aload_n 0, 1) := by decide +kernel
theorem dX4_wishes_36 : decode cX4_wishes 36 = .ok (.iload_n 1, 1) := by decide +kernel
theorem dX4_wishes_37 : decode cX4_wishes 37 = .ok (.iload_n 2, 1) := by decide +kernel
theorem dX4_wishes_38 : decode cX4_wishes 38 = .ok (.iload_n 3, 1) := by decide +kernel
theorem dX4_wishes_39 : decode cX4_wishes 39 = .ok (.iconst 2, 1) := by decide +kernel
theorem dX4_wishes_40 : decode cX4_wishes 40 = .ok (.iload 4, 2) := by decide +kernel
theorem dX4_wishes_42 : decode cX4_wishes 42 = .ok (.imul, 1) := by decide +kernel
theorem dX4_wishes_43 : decode cX4_wishes 43 = .ok (.invokevirtual 99, 3) := by decide +kernel
theorem dX4_wishes_46 : decode cX4_wishes 46 = .ok (.istore 5, 2) := by decide +kernel
theorem dX4_wishes_48 : decode cX4_wishes 48 = .ok (.iload 5, 2) := by decide +kernel
theorem dX4_wishes_50 : decode cX4_wishes 50 = .ok (.ifCond .eq 10, 3) := by decide +kernel
theorem dX4_wishes_53 : decode cX4_wishes 53 = .ok (.aload_n 0, 1) := by decide +kernel
theorem dX4_wishes_54 : decode cX4_wishes 54 = .ok (.iload 5, 2) := by decide +kernel
theorem dX4_wishes_56 : decode cX4_wishes 56 = .ok (.invokevirtual 103, 3) := by decide +kernel
theorem dX4_wishes_59 : decode cX4_wishes 59 = .ok (.ireturn, 1) := by decide +kernel
theorem dX4_wishes_60 : decode cX4_wishes 60 = .ok (.aload_n 0, 1) := by decide +kernel
theorem dX4_wishes_61 : decode cX4_wishes 61 = .ok (.getfield 86, 3) := by decide +kernel
theorem dX4_wishes_64 : decode cX4_wishes 64 = .ok (.ifCond .ne 6, 3) := by decide +kernel
theorem dX4_wishes_67 : decode cX4_wishes 67 = .ok (.bipush (-3), 2) := by decide +kernel
theorem dX4_wishes_69 : decode cX4_wishes 69 = .ok (.ireturn, 1) := by decide +kernel
theorem dX4_wishes_70 : decode cX4_wishes 70 = .ok (.bipush 60, 2) := by decide +kernel
theorem dX4_wishes_72 : decode cX4_wishes 72 = .ok (.iload_n 1, 1) := by decide +kernel
theorem dX4_wishes_73 : decode cX4_wishes 73 = .ok (.imul, 1) := by decide +kernel
theorem dX4_wishes_74 : decode cX4_wishes 74 = .ok (.iload_n 3, 1) := by decide +kernel
theorem dX4_wishes_75 : decode cX4_wishes 75 = .ok (.iadd, 1) := by decide +kernel
theorem dX4_wishes_76 : decode cX4_wishes 76 = .ok (.istore 6, 2) := by decide +kernel
theorem dX4_wishes_78 : decode cX4_wishes 78 = .ok (.iconst 0, 1) := by decide +kernel
theorem dX4_wishes_79 : decode cX4_wishes 79 = .ok (.istore 7, 2) := by decide +kernel
theorem dX4_wishes_81 : decode cX4_wishes 81 = .ok (.iload 7, 2) := by decide +kernel
theorem dX4_wishes_83 : decode cX4_wishes 83 = .ok (.iconst 2, 1) := by decide +kernel
theorem dX4_wishes_84 : decode cX4_wishes 84 = .ok (.iload 4, 2) := by decide +kernel
theorem dX4_wishes_86 : decode cX4_wishes 86 = .ok (.imul, 1) := by decide +kernel
theorem dX4_wishes_87 : decode cX4_wishes 87 = .ok (.if_icmp .ge 28, 3) := by decide +kernel
theorem dX4_wishes_90 : decode cX4_wishes 90 = .ok (.aload_n 0, 1) := by decide +kernel
theorem dX4_wishes_91 : decode cX4_wishes 91 = .ok (.aload_n 0, 1) := by decide +kernel
theorem dX4_wishes_92 : decode cX4_wishes 92 = .ok (.getfield 16, 3) := by decide +kernel
theorem dX4_wishes_95 : decode cX4_wishes 95 = .ok (.iload 6, 2) := by decide +kernel
theorem dX4_wishes_97 : decode cX4_wishes 97 = .ok (.iload 7, 2) := by decide +kernel
theorem dX4_wishes_99 : decode cX4_wishes 99 = .ok (.iadd, 1) := by decide +kernel
theorem dX4_wishes_100 : decode cX4_wishes 100 = .ok (.iaload, 1) := by decide +kernel
theorem dX4_wishes_101 : decode cX4_wishes 101 = .ok (.invokevirtual 173, 3) := by decide +kernel
theorem dX4_wishes_104 : decode cX4_wishes 104 = .ok (.ifCond .ne 5, 3) := by decide +kernel
theorem dX4_wishes_107 : decode cX4_wishes 107 = .ok (.iconst (-1), 1) := by decide +kernel
theorem dX4_wishes_108 : decode cX4_wishes 108 = .ok (.ireturn, 1) := by decide +kernel
theorem dX4_wishes_109 : decode cX4_wishes 109 = .ok (.iinc 7 1, 3) := by decide +kernel
theorem dX4_wishes_112 : decode cX4_wishes 112 = .ok (.goto (-31), 3) := by decide +kernel
theorem dX4_wishes_115 : decode cX4_wishes 115 = .ok (.aload_n 0, 1) := by decide +kernel
theorem dX4_wishes_116 : decode cX4_wishes 116 = .ok (.invokevirtual 164, 3) := by decide +kernel
theorem dX4_wishes_119 : decode cX4_wishes 119 = .ok (.iconst 0, 1) := by decide +kernel
theorem dX4_wishes_120 : decode cX4_wishes 120 = .ok (.istore 7, 2) := by decide +kernel
theorem dX4_wishes_122 : decode cX4_wishes 122 = .ok (.iconst 0, 1) := by decide +kernel
theorem dX4_wishes_123 : decode cX4_wishes 123 = .ok (.istore 8, 2) := by decide +kernel
theorem dX4_wishes_125 : decode cX4_wishes 125 = .ok (.iload 8, 2) := by decide +kernel
theorem dX4_wishes_127 : decode cX4_wishes 127 = .ok (.iload 4, 2) := by decide +kernel
theorem dX4_wishes_129 : decode cX4_wishes 129 = .ok (.if_icmp .ge 52, 3) := by decide +kernel
theorem dX4_wishes_132 : decode cX4_wishes 132 = .ok (.iload 7, 2) := by decide +kernel
theorem dX4_wishes_134 : decode cX4_wishes 134 = .ok (.aload_n 0, 1) := by decide +kernel
theorem dX4_wishes_135 : decode cX4_wishes 135 = .ok (.aload_n 0, 1) := by decide +kernel
theorem dX4_wishes_136 : decode cX4_wishes 136 = .ok (.getfield 16, 3) := by decide +kernel
theorem dX4_wishes_139 : decode cX4_wishes 139 = .ok (.iload 6, 2) := by decide +kernel
theorem dX4_wishes_141 : decode cX4_wishes 141 = .ok (.iconst 2, 1) := by decide +kernel
theorem dX4_wishes_142 : decode cX4_wishes 142 = .ok (.iload 8, 2) := by decide +kernel
theorem dX4_wishes_144 : decode cX4_wishes 144 = .ok (.imul, 1) := by decide +kernel
theorem dX4_wishes_145 : decode cX4_wishes 145 = .ok (.iadd, 1) := by decide +kernel
theorem dX4_wishes_146 : decode cX4_wishes 146 = .ok (.iaload, 1) := by decide +kernel
theorem dX4_wishes_147 : decode cX4_wishes 147 = .ok (.aload_n 0, 1) := by decide +kernel
theorem dX4_wishes_148 : decode cX4_wishes 148 = .ok (.getfield 16, 3) := by decide +kernel
theorem dX4_wishes_151 : decode cX4_wishes 151 = .ok (.iload 6, 2) := by decide +kernel
theorem dX4_wishes_153 : decode cX4_wishes 153 = .ok (.iconst 2, 1) := by decide +kernel
theorem dX4_wishes_154 : decode cX4_wishes 154 = .ok (.iload 8, 2) := by decide +kernel
theorem dX4_wishes_156 : decode cX4_wishes 156 = .ok (.imul, 1) := by decide +kernel
theorem dX4_wishes_157 : decode cX4_wishes 157 = .ok (.iadd, 1) := by decide +kernel
theorem dX4_wishes_158 : decode cX4_wishes 158 = .ok (.iconst 1, 1) := by decide +kernel
theorem dX4_wishes_159 : decode cX4_wishes 159 = .ok (.iadd, 1) := by decide +kernel
theorem dX4_wishes_160 : decode cX4_wishes 160 = .ok (.iaload, 1) := by decide +kernel
theorem dX4_wishes_161 : decode cX4_wishes 161 = .ok (.invokevirtual 155, 3) := by decide +kernel
theorem dX4_wishes_164 : decode cX4_wishes 164 = .ok (.ifCond .eq 7, 3) := by decide +kernel
theorem dX4_wishes_167 : decode cX4_wishes 167 = .ok (.iconst 1, 1) := by decide +kernel
theorem dX4_wishes_168 : decode cX4_wishes 168 = .ok (.goto 4, 3) := by decide +kernel
theorem dX4_wishes_171 : decode cX4_wishes 171 = .ok (.iconst 0, 1) := by decide +kernel
theorem dX4_wishes_172 : decode cX4_wishes 172 = .ok (.iadd, 1) := by decide +kernel
theorem dX4_wishes_173 : decode cX4_wishes 173 = .ok (.istore 7, 2) := by decide +kernel
theorem dX4_wishes_175 : decode cX4_wishes 175 = .ok (.iinc 8 1, 3) := by decide +kernel
theorem dX4_wishes_178 : decode cX4_wishes 178 = .ok (.goto (-53), 3) := by decide +kernel
theorem dX4_wishes_181 : decode cX4_wishes 181 = .ok (.iload 7, 2) := by decide +kernel
theorem dX4_wishes_183 : decode cX4_wishes 183 = .ok (.ireturn, 1) := by decide +kernel
theorem dX4_reading_0 : decode cX4_reading 0 = .ok (.aload_n 0, 1) := by decide +kernel
theorem dX4_reading_1 : decode cX4_reading 1 = .ok (.iload_n 1, 1) := by decide +kernel
theorem dX4_reading_2 : decode cX4_reading 2 = .ok (.invokevirtual 173, 3) := by decide +kernel
theorem dX4_reading_5 : decode cX4_reading 5 = .ok (.ifCond .ne 5, 3) := by decide +kernel
theorem dX4_reading_8 : decode cX4_reading 8 = .ok (.iconst (-1), 1) := by decide +kernel
theorem dX4_reading_9 : decode cX4_reading 9 = .ok (.ireturn, 1) := by decide +kernel
theorem dX4_reading_10 : decode cX4_reading 10 = .ok (.iload_n 2, 1) := by decide +kernel
theorem dX4_reading_11 : decode cX4_reading 11 = .ok (.iconst 0, 1) := by decide +kernel
theorem dX4_reading_12 : decode cX4_reading 12 = .ok (.bipush 120, 2) := by decide +kernel
theorem dX4_reading_14 : decode cX4_reading 14 = .ok (.invokestatic 82, 3) := by decide +kernel
theorem dX4_reading_17 : decode cX4_reading 17 = .ok (.ifCond .ne 6, 3) := by decide +kernel
theorem dX4_reading_20 : decode cX4_reading 20 = .ok (.bipush (-2), 2) := by decide +kernel
theorem dX4_reading_22 : decode cX4_reading 22 = .ok (.ireturn, 1) := by decide +kernel
theorem dX4_reading_23 : decode cX4_reading 23 = .ok (.aload_n 0, 1) := by decide +kernel
theorem dX4_reading_24 : decode cX4_reading 24 = .ok (.getfield 113, 3) := by decide +kernel
theorem dX4_reading_27 : decode cX4_reading 27 = .ok (.bipush 8, 2) := by decide +kernel
theorem dX4_reading_29 : decode cX4_reading 29 = .ok (.if_icmp .ne 6, 3) := by decide +kernel
theorem dX4_reading_32 : decode cX4_reading 32 = .ok (.bipush (-4), 2) := by decide +kernel
theorem dX4_reading_34 : decode cX4_reading 34 = .ok (.ireturn, 1) := by decide +kernel
theorem dX4_reading_35 : decode cX4_reading 35 = .ok (.aload_n 0, 1) := by decide +kernel
theorem dX4_reading_36 : decode cX4_reading 36 = .ok (.getfield 70, 3) := by decide +kernel
theorem dX4_reading_39 : decode cX4_reading 39 = .ok (.aload_n 0, 1) := by decide +kernel
theorem dX4_reading_40 : decode cX4_reading 40 = .ok (.getfield 113, 3) := by decide +kernel
theorem dX4_reading_43 : decode cX4_reading 43 = .ok (.iload_n 1, 1) := by decide +kernel
theorem dX4_reading_44 : decode cX4_reading 44 = .ok (.iastore, 1) := by decide +kernel
theorem dX4_reading_45 : decode cX4_reading 45 = .ok (.aload_n 0, 1) := by decide +kernel
theorem dX4_reading_46 : decode cX4_reading 46 = .ok (.getfield 73, 3) := by decide +kernel
theorem dX4_reading_49 : decode cX4_reading 49 = .ok (.aload_n 0, 1) := by decide +kernel
theorem dX4_reading_50 : decode cX4_reading 50 = .ok (.getfield 113, 3) := by decide +kernel
theorem dX4_reading_53 : decode cX4_reading 53 = .ok (.iload_n 2, 1) := by decide +kernel
theorem dX4_reading_54 : decode cX4_reading 54 = .ok (.iastore, 1) := by decide +kernel
theorem dX4_reading_55 : decode cX4_reading 55 = .ok (.aload_n 0, 1) := by decide +kernel
theorem dX4_reading_56 : decode cX4_reading 56 = .ok (.dup, 1) := by decide +kernel
theorem dX4_reading_57 : decode cX4_reading 57 = .ok (.getfield 113, 3) := by decide +kernel
theorem dX4_reading_60 : decode cX4_reading 60 = .ok (.iconst 1, 1) := by decide +kernel
theorem dX4_reading_61 : decode cX4_reading 61 = .ok (.iadd, 1) := by decide +kernel
theorem dX4_reading_62 : decode cX4_reading 62 = .ok (.putfield 113, 3) := by decide +kernel
theorem dX4_reading_65 : decode cX4_reading 65 = .ok (.aload_n 0, 1) := by decide +kernel
theorem dX4_reading_66 : decode cX4_reading 66 = .ok (.getfield 113, 3) := by decide +kernel
theorem dX4_reading_69 : decode cX4_reading 69 = .ok (.iconst 1, 1) := by decide +kernel
theorem dX4_reading_70 : decode cX4_reading 70 = .ok (.isub, 1) := by decide +kernel
theorem dX4_reading_71 : decode cX4_reading 71 = .ok (.ireturn, 1) := by decide +kernel
theorem dX4_back_0 : decode cX4_back 0 = .ok (.iload_n 1, 1) := by decide +kernel
theorem dX4_back_1 : decode cX4_back 1 = .ok (.iconst 0, 1) := by decide +kernel
theorem dX4_back_2 : decode cX4_back 2 = .ok (.aload_n 0, 1) := by decide +kernel
theorem dX4_back_3 : decode cX4_back 3 = .ok (.getfield 113, 3) := by decide +kernel
theorem dX4_back_6 : decode cX4_back 6 = .ok (.invokestatic 82, 3) := by decide +kernel
theorem dX4_back_9 : decode cX4_back 9 = .ok (.ifCond .ne 6, 3) := by decide +kernel
theorem dX4_back_12 : decode cX4_back 12 = .ok (.bipush (-2), 2) := by decide +kernel
theorem dX4_back_14 : decode cX4_back 14 = .ok (.ireturn, 1) := by decide +kernel
theorem dX4_back_15 : decode cX4_back 15 = .ok (.aload_n 0, 1) := by decide +kernel
theorem dX4_back_16 : decode cX4_back 16 = .ok (.dup, 1) := by decide +kernel
theorem dX4_back_17 : decode cX4_back 17 = .ok (.getfield 113, 3) := by decide +kernel
theorem dX4_back_20 : decode cX4_back 20 = .ok (.iload_n 1, 1) := by decide +kernel
theorem dX4_back_21 : decode cX4_back 21 = .ok (.isub, 1) := by decide +kernel
theorem dX4_back_22 : decode cX4_back 22 = .ok (.putfield 113, 3) := by decide +kernel
theorem dX4_back_25 : decode cX4_back 25 = .ok (.aload_n 0, 1) := by decide +kernel
theorem dX4_back_26 : decode cX4_back 26 = .ok (.getfield 113, 3) := by decide +kernel
theorem dX4_back_29 : decode cX4_back 29 = .ok (.ireturn, 1) := by decide +kernel
theorem dX4_areSo_0 : decode cX4_areSo 0 = .ok (.aload_n 0, 1) := by decide +kernel
theorem dX4_areSo_1 : decode cX4_areSo 1 = .ok (.invokevirtual 164, 3) := by decide +kernel
theorem dX4_areSo_4 : decode cX4_areSo 4 = .ok (.iconst 0, 1) := by decide +kernel
theorem dX4_areSo_5 : decode cX4_areSo 5 = .ok (.istore_n 1, 1) := by decide +kernel
theorem dX4_areSo_6 : decode cX4_areSo 6 = .ok (.iload_n 1, 1) := by decide +kernel
theorem dX4_areSo_7 : decode cX4_areSo 7 = .ok (.aload_n 0, 1) := by decide +kernel
theorem dX4_areSo_8 : decode cX4_areSo 8 = .ok (.getfield 113, 3) := by decide +kernel
theorem dX4_areSo_11 : decode cX4_areSo 11 = .ok (.if_icmp .ge 31, 3) := by decide +kernel
theorem dX4_areSo_14 : decode cX4_areSo 14 = .ok (.aload_n 0, 1) := by decide +kernel
theorem dX4_areSo_15 : decode cX4_areSo 15 = .ok (.getfield 52, 3) := by decide +kernel
theorem dX4_areSo_18 : decode cX4_areSo 18 = .ok (.aload_n 0, 1) := by decide +kernel
theorem dX4_areSo_19 : decode cX4_areSo 19 = .ok (.getfield 70, 3) := by decide +kernel
theorem dX4_areSo_22 : decode cX4_areSo 22 = .ok (.iload_n 1, 1) := by decide +kernel
theorem dX4_areSo_23 : decode cX4_areSo 23 = .ok (.iaload, 1) := by decide +kernel
theorem dX4_areSo_24 : decode cX4_areSo 24 = .ok (.iaload, 1) := by decide +kernel
theorem dX4_areSo_25 : decode cX4_areSo 25 = .ok (.aload_n 0, 1) := by decide +kernel
theorem dX4_areSo_26 : decode cX4_areSo 26 = .ok (.getfield 73, 3) := by decide +kernel
theorem dX4_areSo_29 : decode cX4_areSo 29 = .ok (.iload_n 1, 1) := by decide +kernel
theorem dX4_areSo_30 : decode cX4_areSo 30 = .ok (.iaload, 1) := by decide +kernel
theorem dX4_areSo_31 : decode cX4_areSo 31 = .ok (.if_icmp .eq 5, 3) := by decide +kernel
theorem dX4_areSo_34 : decode cX4_areSo 34 = .ok (.iconst 0, 1) := by decide +kernel
theorem dX4_areSo_35 : decode cX4_areSo 35 = .ok (.ireturn, 1) := by decide +kernel
theorem dX4_areSo_36 : decode cX4_areSo 36 = .ok (.iinc 1 1, 3) := by decide +kernel
theorem dX4_areSo_39 : decode cX4_areSo 39 = .ok (.goto (-33), 3) := by decide +kernel
theorem dX4_areSo_42 : decode cX4_areSo 42 = .ok (.iconst 1, 1) := by decide +kernel
theorem dX4_areSo_43 : decode cX4_areSo 43 = .ok (.ireturn, 1) := by decide +kernel
theorem dX4_kinds_0 : decode cX4_kinds 0 = .ok (.aload_n 0, 1) := by decide +kernel
theorem dX4_kinds_1 : decode cX4_kinds 1 = .ok (.iload_n 1, 1) := by decide +kernel
theorem dX4_kinds_2 : decode cX4_kinds 2 = .ok (.invokevirtual 173, 3) := by decide +kernel
theorem dX4_kinds_5 : decode cX4_kinds 5 = .ok (.ifCond .ne 5, 3) := by decide +kernel
theorem dX4_kinds_8 : decode cX4_kinds 8 = .ok (.iconst (-1), 1) := by decide +kernel
theorem dX4_kinds_9 : decode cX4_kinds 9 = .ok (.ireturn, 1) := by decide +kernel
theorem dX4_kinds_10 : decode cX4_kinds 10 = .ok (.aload_n 0, 1) := by decide +kernel
theorem dX4_kinds_11 : decode cX4_kinds 11 = .ok (.getfield 19, 3) := by decide +kernel
theorem dX4_kinds_14 : decode cX4_kinds 14 = .ok (.iload_n 1, 1) := by decide +kernel
theorem dX4_kinds_15 : decode cX4_kinds 15 = .ok (.iaload, 1) := by decide +kernel
theorem dX4_kinds_16 : decode cX4_kinds 16 = .ok (.istore_n 2, 1) := by decide +kernel
theorem dX4_kinds_17 : decode cX4_kinds 17 = .ok (.iconst 0, 1) := by decide +kernel
theorem dX4_kinds_18 : decode cX4_kinds 18 = .ok (.istore_n 3, 1) := by decide +kernel
theorem dX4_kinds_19 : decode cX4_kinds 19 = .ok (.iconst 0, 1) := by decide +kernel
theorem dX4_kinds_20 : decode cX4_kinds 20 = .ok (.istore 4, 2) := by decide +kernel
theorem dX4_kinds_22 : decode cX4_kinds 22 = .ok (.iload 4, 2) := by decide +kernel
theorem dX4_kinds_24 : decode cX4_kinds 24 = .ok (.iconst 3, 1) := by decide +kernel
theorem dX4_kinds_25 : decode cX4_kinds 25 = .ok (.if_icmp .ge 35, 3) := by decide +kernel
theorem dX4_kinds_28 : decode cX4_kinds 28 = .ok (.aload_n 0, 1) := by decide +kernel
theorem dX4_kinds_29 : decode cX4_kinds 29 = .ok (.getfield 19, 3) := by decide +kernel
theorem dX4_kinds_32 : decode cX4_kinds 32 = .ok (.iload_n 1, 1) := by decide +kernel
theorem dX4_kinds_33 : decode cX4_kinds 33 = .ok (.iload 4, 2) := by decide +kernel
theorem dX4_kinds_35 : decode cX4_kinds 35 = .ok (.iastore, 1) := by decide +kernel
theorem dX4_kinds_36 : decode cX4_kinds 36 = .ok (.iload_n 3, 1) := by decide +kernel
theorem dX4_kinds_37 : decode cX4_kinds 37 = .ok (.aload_n 0, 1) := by decide +kernel
theorem dX4_kinds_38 : decode cX4_kinds 38 = .ok (.invokevirtual 234, 3) := by decide +kernel
theorem dX4_kinds_41 : decode cX4_kinds 41 = .ok (.ifCond .eq 10, 3) := by decide +kernel
theorem dX4_kinds_44 : decode cX4_kinds 44 = .ok (.iconst 1, 1) := by decide +kernel
theorem dX4_kinds_45 : decode cX4_kinds 45 = .ok (.iload 4, 2) := by decide +kernel
theorem dX4_kinds_47 : decode cX4_kinds 47 = .ok (.ishl, 1) := by decide +kernel
theorem dX4_kinds_48 : decode cX4_kinds 48 = .ok (.goto 4, 3) := by decide +kernel
theorem dX4_kinds_51 : decode cX4_kinds 51 = .ok (.iconst 0, 1) := by decide +kernel
theorem dX4_kinds_52 : decode cX4_kinds 52 = .ok (.ior, 1) := by decide +kernel
theorem dX4_kinds_53 : decode cX4_kinds 53 = .ok (.istore_n 3, 1) := by decide +kernel
theorem dX4_kinds_54 : decode cX4_kinds 54 = .ok (.iinc 4 1, 3) := by decide +kernel
theorem dX4_kinds_57 : decode cX4_kinds 57 = .ok (.goto (-35), 3) := by decide +kernel
theorem dX4_kinds_60 : decode cX4_kinds 60 = .ok (.aload_n 0, 1) := by decide +kernel
theorem dX4_kinds_61 : decode cX4_kinds 61 = .ok (.getfield 19, 3) := by decide +kernel
theorem dX4_kinds_64 : decode cX4_kinds 64 = .ok (.iload_n 1, 1) := by decide +kernel
theorem dX4_kinds_65 : decode cX4_kinds 65 = .ok (.iload_n 2, 1) := by decide +kernel
theorem dX4_kinds_66 : decode cX4_kinds 66 = .ok (.iastore, 1) := by decide +kernel
theorem dX4_kinds_67 : decode cX4_kinds 67 = .ok (.iload_n 3, 1) := by decide +kernel
theorem dX4_kinds_68 : decode cX4_kinds 68 = .ok (.ireturn, 1) := by decide +kernel
theorem dX4_widths_0 : decode cX4_widths 0 = .ok (.aload_n 0, 1) := by decide +kernel
theorem dX4_widths_1 : decode cX4_widths 1 = .ok (.iload_n 1, 1) := by decide +kernel
theorem dX4_widths_2 : decode cX4_widths 2 = .ok (.invokevirtual 173, 3) := by decide +kernel
theorem dX4_widths_5 : decode cX4_widths 5 = .ok (.ifCond .ne 5, 3) := by decide +kernel
theorem dX4_widths_8 : decode cX4_widths 8 = .ok (.iconst (-1), 1) := by decide +kernel
theorem dX4_widths_9 : decode cX4_widths 9 = .ok (.ireturn, 1) := by decide +kernel
theorem dX4_widths_10 : decode cX4_widths 10 = .ok (.aload_n 0, 1) := by decide +kernel
theorem dX4_widths_11 : decode cX4_widths 11 = .ok (.getfield 25, 3) := by decide +kernel
theorem dX4_widths_14 : decode cX4_widths 14 = .ok (.iload_n 1, 1) := by decide +kernel
theorem dX4_widths_15 : decode cX4_widths 15 = .ok (.iaload, 1) := by decide +kernel
theorem dX4_widths_16 : decode cX4_widths 16 = .ok (.istore_n 2, 1) := by decide +kernel
theorem dX4_widths_17 : decode cX4_widths 17 = .ok (.iconst 0, 1) := by decide +kernel
theorem dX4_widths_18 : decode cX4_widths 18 = .ok (.istore_n 3, 1) := by decide +kernel
theorem dX4_widths_19 : decode cX4_widths 19 = .ok (.iconst 1, 1) := by decide +kernel
theorem dX4_widths_20 : decode cX4_widths 20 = .ok (.istore 4, 2) := by decide +kernel
theorem dX4_widths_22 : decode cX4_widths 22 = .ok (.iload 4, 2) := by decide +kernel
theorem dX4_widths_24 : decode cX4_widths 24 = .ok (.bipush 9, 2) := by decide +kernel
theorem dX4_widths_26 : decode cX4_widths 26 = .ok (.if_icmp .gt 35, 3) := by decide +kernel
theorem dX4_widths_29 : decode cX4_widths 29 = .ok (.aload_n 0, 1) := by decide +kernel
theorem dX4_widths_30 : decode cX4_widths 30 = .ok (.getfield 25, 3) := by decide +kernel
theorem dX4_widths_33 : decode cX4_widths 33 = .ok (.iload_n 1, 1) := by decide +kernel
theorem dX4_widths_34 : decode cX4_widths 34 = .ok (.iload 4, 2) := by decide +kernel
theorem dX4_widths_36 : decode cX4_widths 36 = .ok (.iastore, 1) := by decide +kernel
theorem dX4_widths_37 : decode cX4_widths 37 = .ok (.iload_n 3, 1) := by decide +kernel
theorem dX4_widths_38 : decode cX4_widths 38 = .ok (.aload_n 0, 1) := by decide +kernel
theorem dX4_widths_39 : decode cX4_widths 39 = .ok (.invokevirtual 234, 3) := by decide +kernel
theorem dX4_widths_42 : decode cX4_widths 42 = .ok (.ifCond .eq 10, 3) := by decide +kernel
theorem dX4_widths_45 : decode cX4_widths 45 = .ok (.iconst 1, 1) := by decide +kernel
theorem dX4_widths_46 : decode cX4_widths 46 = .ok (.iload 4, 2) := by decide +kernel
theorem dX4_widths_48 : decode cX4_widths 48 = .ok (.ishl, 1) := by decide +kernel
theorem dX4_widths_49 : decode cX4_widths 49 = .ok (.goto 4, 3) := by decide +kernel
theorem dX4_widths_52 : decode cX4_widths 52 = .ok (.iconst 0, 1) := by decide +kernel
theorem dX4_widths_53 : decode cX4_widths 53 = .ok (.ior, 1) := by decide +kernel
theorem dX4_widths_54 : decode cX4_widths 54 = .ok (.istore_n 3, 1) := by decide +kernel
theorem dX4_widths_55 : decode cX4_widths 55 = .ok (.iinc 4 1, 3) := by decide +kernel
theorem dX4_widths_58 : decode cX4_widths 58 = .ok (.goto (-36), 3) := by decide +kernel
theorem dX4_widths_61 : decode cX4_widths 61 = .ok (.aload_n 0, 1) := by decide +kernel
theorem dX4_widths_62 : decode cX4_widths 62 = .ok (.getfield 25, 3) := by decide +kernel
theorem dX4_widths_65 : decode cX4_widths 65 = .ok (.iload_n 1, 1) := by decide +kernel
theorem dX4_widths_66 : decode cX4_widths 66 = .ok (.iload_n 2, 1) := by decide +kernel
theorem dX4_widths_67 : decode cX4_widths 67 = .ok (.iastore, 1) := by decide +kernel
theorem dX4_widths_68 : decode cX4_widths 68 = .ok (.iload_n 3, 1) := by decide +kernel
theorem dX4_widths_69 : decode cX4_widths 69 = .ok (.ireturn, 1) := by decide +kernel
theorem dX4_inLeastTerms_0 : decode cX4_inLeastTerms 0 = .ok (.lload_n 0, 1) := by decide +kernel
theorem dX4_inLeastTerms_1 : decode cX4_inLeastTerms 1 = .ok (.lstore 5, 2) := by decide +kernel
theorem dX4_inLeastTerms_3 : decode cX4_inLeastTerms 3 = .ok (.lload_n 2, 1) := by decide +kernel
theorem dX4_inLeastTerms_4 : decode cX4_inLeastTerms 4 = .ok (.lstore 7, 2) := by decide +kernel
theorem dX4_inLeastTerms_6 : decode cX4_inLeastTerms 6 = .ok (.lload 7, 2) := by decide +kernel
theorem dX4_inLeastTerms_8 : decode cX4_inLeastTerms 8 = .ok (.lconst 0, 1) := by decide +kernel
theorem dX4_inLeastTerms_9 : decode cX4_inLeastTerms 9 = .ok (.lcmp, 1) := by decide +kernel
theorem dX4_inLeastTerms_10 : decode cX4_inLeastTerms 10 = .ok (.ifCond .eq 21, 3) := by decide +kernel
theorem dX4_inLeastTerms_13 : decode cX4_inLeastTerms 13 = .ok (.lload 5, 2) := by decide +kernel
theorem dX4_inLeastTerms_15 : decode cX4_inLeastTerms 15 = .ok (.lload 7, 2) := by decide +kernel
theorem dX4_inLeastTerms_17 : decode cX4_inLeastTerms 17 = .ok (.lrem, 1) := by decide +kernel
theorem dX4_inLeastTerms_18 : decode cX4_inLeastTerms 18 = .ok (.lstore 9, 2) := by decide +kernel
theorem dX4_inLeastTerms_20 : decode cX4_inLeastTerms 20 = .ok (.lload 7, 2) := by decide +kernel
theorem dX4_inLeastTerms_22 : decode cX4_inLeastTerms 22 = .ok (.lstore 5, 2) := by decide +kernel
theorem dX4_inLeastTerms_24 : decode cX4_inLeastTerms 24 = .ok (.lload 9, 2) := by decide +kernel
theorem dX4_inLeastTerms_26 : decode cX4_inLeastTerms 26 = .ok (.lstore 7, 2) := by decide +kernel
theorem dX4_inLeastTerms_28 : decode cX4_inLeastTerms 28 = .ok (.goto (-22), 3) := by decide +kernel
theorem dX4_inLeastTerms_31 : decode cX4_inLeastTerms 31 = .ok (.iload 4, 2) := by decide +kernel
theorem dX4_inLeastTerms_33 : decode cX4_inLeastTerms 33 = .ok (.ifCond .ne 10, 3) := by decide +kernel
theorem dX4_inLeastTerms_36 : decode cX4_inLeastTerms 36 = .ok (.lload_n 0, 1) := by decide +kernel
theorem dX4_inLeastTerms_37 : decode cX4_inLeastTerms 37 = .ok (.lload 5, 2) := by decide +kernel
theorem dX4_inLeastTerms_39 : decode cX4_inLeastTerms 39 = .ok (.ldiv, 1) := by decide +kernel
theorem dX4_inLeastTerms_40 : decode cX4_inLeastTerms 40 = .ok (.goto 7, 3) := by decide +kernel
theorem dX4_inLeastTerms_43 : decode cX4_inLeastTerms 43 = .ok (.lload_n 2, 1) := by decide +kernel
theorem dX4_inLeastTerms_44 : decode cX4_inLeastTerms 44 = .ok (.lload 5, 2) := by decide +kernel
theorem dX4_inLeastTerms_46 : decode cX4_inLeastTerms 46 = .ok (.ldiv, 1) := by decide +kernel
theorem dX4_inLeastTerms_47 : decode cX4_inLeastTerms 47 = .ok (.lreturn, 1) := by decide +kernel
theorem dX4_odds_0 : decode cX4_odds 0 = .ok (.iload_n 1, 1) := by decide +kernel
theorem dX4_odds_1 : decode cX4_odds 1 = .ok (.iconst 0, 1) := by decide +kernel
theorem dX4_odds_2 : decode cX4_odds 2 = .ok (.sipush 9999, 3) := by decide +kernel
theorem dX4_odds_5 : decode cX4_odds 5 = .ok (.invokestatic 82, 3) := by decide +kernel
theorem dX4_odds_8 : decode cX4_odds 8 = .ok (.ifCond .eq 19, 3) := by decide +kernel
theorem dX4_odds_11 : decode cX4_odds 11 = .ok (.iload_n 2, 1) := by decide +kernel
theorem dX4_odds_12 : decode cX4_odds 12 = .ok (.iconst 0, 1) := by decide +kernel
theorem dX4_odds_13 : decode cX4_odds 13 = .ok (.iconst 1, 1) := by decide +kernel
theorem dX4_odds_14 : decode cX4_odds 14 = .ok (.invokestatic 82, 3) := by decide +kernel
theorem dX4_odds_17 : decode cX4_odds 17 = .ok (.ifCond .eq 10, 3) := by decide +kernel
theorem dX4_odds_20 : decode cX4_odds 20 = .ok (.aload_n 0, 1) := by decide +kernel
theorem dX4_odds_21 : decode cX4_odds 21 = .ok (.getfield 86, 3) := by decide +kernel
theorem dX4_odds_24 : decode cX4_odds 24 = .ok (.ifCond .ne 7, 3) := by decide +kernel
theorem dX4_odds_27 : decode cX4_odds 27 = .ok (.ldc2_w 80, 3) := by decide +kernel
theorem dX4_odds_30 : decode cX4_odds 30 = .ok (.lreturn, 1) := by decide +kernel
theorem dX4_odds_31 : decode cX4_odds 31 = .ok (.aload_n 0, 1) := by decide +kernel
theorem dX4_odds_32 : decode cX4_odds 32 = .ok (.iload_n 1, 1) := by decide +kernel
theorem dX4_odds_33 : decode cX4_odds 33 = .ok (.invokevirtual 230, 3) := by decide +kernel
theorem dX4_odds_36 : decode cX4_odds 36 = .ok (.aload_n 0, 1) := by decide +kernel
theorem dX4_odds_37 : decode cX4_odds 37 = .ok (.getfield 223, 3) := by decide +kernel
theorem dX4_odds_40 : decode cX4_odds 40 = .ok (.i2l, 1) := by decide +kernel
theorem dX4_odds_41 : decode cX4_odds 41 = .ok (.aload_n 0, 1) := by decide +kernel
theorem dX4_odds_42 : decode cX4_odds 42 = .ok (.getfield 220, 3) := by decide +kernel
theorem dX4_odds_45 : decode cX4_odds 45 = .ok (.i2l, 1) := by decide +kernel
theorem dX4_odds_46 : decode cX4_odds 46 = .ok (.iload_n 2, 1) := by decide +kernel
theorem dX4_odds_47 : decode cX4_odds 47 = .ok (.invokestatic 237, 3) := by decide +kernel
theorem dX4_odds_50 : decode cX4_odds 50 = .ok (.lreturn, 1) := by decide +kernel
theorem dX4_sheet_0 : decode cX4_sheet 0 = .ok (.aload_n 0, 1) := by decide +kernel
theorem dX4_sheet_1 : decode cX4_sheet 1 = .ok (.iconst 0, 1) := by decide +kernel
theorem dX4_sheet_2 : decode cX4_sheet 2 = .ok (.putfield 76, 3) := by decide +kernel
theorem dX4_sheet_5 : decode cX4_sheet 5 = .ok (.iload_n 1, 1) := by decide +kernel
theorem dX4_sheet_6 : decode cX4_sheet 6 = .ok (.invokestatic 92, 3) := by decide +kernel
theorem dX4_sheet_9 : decode cX4_sheet 9 = .ok (.ifCond .ne 5, 3) := by decide +kernel
theorem dX4_sheet_12 : decode cX4_sheet 12 = .ok (.iconst (-1), 1) := by decide +kernel
theorem dX4_sheet_13 : decode cX4_sheet 13 = .ok (.ireturn, 1) := by decide +kernel
theorem dX4_sheet_14 : decode cX4_sheet 14 = .ok (.iload_n 2, 1) := by decide +kernel
theorem dX4_sheet_15 : decode cX4_sheet 15 = .ok (.invokestatic 96, 3) := by decide +kernel
theorem dX4_sheet_18 : decode cX4_sheet 18 = .ok (.ifCond .eq 9, 3) := by decide +kernel
theorem dX4_sheet_21 : decode cX4_sheet 21 = .ok (.iload_n 3, 1) := by decide +kernel
theorem dX4_sheet_22 : decode cX4_sheet 22 = .ok (.bipush 60, 2) := by decide +kernel
theorem dX4_sheet_24 : decode cX4_sheet 24 = .ok (.if_icmp .le 6, 3) := by decide +kernel
theorem dX4_sheet_27 : decode cX4_sheet 27 = .ok (.bipush (-2), 2) := by decide +kernel
theorem dX4_sheet_29 : decode cX4_sheet 29 = .ok (.ireturn, 1) := by decide +kernel
theorem dX4_sheet_30 : decode cX4_sheet 30 = .ok (.iload_n 3, 1) := by decide +kernel
theorem dX4_sheet_31 : decode cX4_sheet 31 = .ok (.ifCond .ge 9, 3) := by decide +kernel
theorem dX4_sheet_34 : decode cX4_sheet 34 = .ok (.aload_n 0, 1) := by decide +kernel
theorem dX4_sheet_35 : decode cX4_sheet 35 = .ok (.iconst 4, 1) := by decide +kernel
theorem dX4_sheet_36 : decode cX4_sheet 36 = .ok (.invokevirtual 103, 3) := by decide +kernel
theorem dX4_sheet_39 : decode cX4_sheet 39 = .ok (.ireturn, 1) := by decide +kernel
theorem dX4_sheet_40 : decode cX4_sheet 40 = .ok (.aload_n 0, 1) := by decide +kernel
theorem dX4_sheet_41 : decode cX4_sheet 41 = .ok (.getfield 9, 3) := by decide +kernel
theorem dX4_sheet_44 : decode cX4_sheet 44 = .ok (.iload_n 1, 1) := by decide +kernel
theorem dX4_sheet_45 : decode cX4_sheet 45 = .ok (.iload_n 2, 1) := by decide +kernel
theorem dX4_sheet_46 : decode cX4_sheet 46 = .ok (.iastore, 1) := by decide +kernel
theorem dX4_sheet_47 : decode cX4_sheet 47 = .ok (.aload_n 0, 1) := by decide +kernel
theorem dX4_sheet_48 : decode cX4_sheet 48 = .ok (.getfield 13, 3) := by decide +kernel
theorem dX4_sheet_51 : decode cX4_sheet 51 = .ok (.iload_n 1, 1) := by decide +kernel
theorem dX4_sheet_52 : decode cX4_sheet 52 = .ok (.iload_n 3, 1) := by decide +kernel
theorem dX4_sheet_53 : decode cX4_sheet 53 = .ok (.iastore, 1) := by decide +kernel
theorem dX4_sheet_54 : decode cX4_sheet 54 = .ok (.iconst 0, 1) := by decide +kernel
theorem dX4_sheet_55 : decode cX4_sheet 55 = .ok (.istore 4, 2) := by decide +kernel
theorem dX4_sheet_57 : decode cX4_sheet 57 = .ok (.iload 4, 2) := by decide +kernel
theorem dX4_sheet_59 : decode cX4_sheet 59 = .ok (.bipush 60, 2) := by decide +kernel
theorem dX4_sheet_61 : decode cX4_sheet 61 = .ok (.if_icmp .ge 22, 3) := by decide +kernel
theorem dX4_sheet_64 : decode cX4_sheet 64 = .ok (.aload_n 0, 1) := by decide +kernel
theorem dX4_sheet_65 : decode cX4_sheet 65 = .ok (.getfield 16, 3) := by decide +kernel
theorem dX4_sheet_68 : decode cX4_sheet 68 = .ok (.bipush 60, 2) := by decide +kernel
theorem dX4_sheet_70 : decode cX4_sheet 70 = .ok (.iload_n 1, 1) := by decide +kernel
theorem dX4_sheet_71 : decode cX4_sheet 71 = .ok (.imul, 1) := by decide +kernel
theorem dX4_sheet_72 : decode cX4_sheet 72 = .ok (.iload 4, 2) := by decide +kernel
theorem dX4_sheet_74 : decode cX4_sheet 74 = .ok (.iadd, 1) := by decide +kernel
theorem dX4_sheet_75 : decode cX4_sheet 75 = .ok (.iconst 0, 1) := by decide +kernel
theorem dX4_sheet_76 : decode cX4_sheet 76 = .ok (.iastore, 1) := by decide +kernel
theorem dX4_sheet_77 : decode cX4_sheet 77 = .ok (.iinc 4 1, 3) := by decide +kernel
theorem dX4_sheet_80 : decode cX4_sheet 80 = .ok (.goto (-23), 3) := by decide +kernel
theorem dX4_sheet_83 : decode cX4_sheet 83 = .ok (.iconst 1, 1) := by decide +kernel
theorem dX4_sheet_84 : decode cX4_sheet 84 = .ok (.ireturn, 1) := by decide +kernel
theorem dX4_lose_0 : decode cX4_lose 0 = .ok (.iload_n 1, 1) := by decide +kernel
theorem dX4_lose_1 : decode cX4_lose 1 = .ok (.invokestatic 92, 3) := by decide +kernel
theorem dX4_lose_4 : decode cX4_lose 4 = .ok (.ifCond .ne 5, 3) := by decide +kernel
theorem dX4_lose_7 : decode cX4_lose 7 = .ok (.iconst (-1), 1) := by decide +kernel
theorem dX4_lose_8 : decode cX4_lose 8 = .ok (.ireturn, 1) := by decide +kernel
theorem dX4_lose_9 : decode cX4_lose 9 = .ok (.aload_n 0, 1) := by decide +kernel
theorem dX4_lose_10 : decode cX4_lose 10 = .ok (.getfield 9, 3) := by decide +kernel
theorem dX4_lose_13 : decode cX4_lose 13 = .ok (.iload_n 1, 1) := by decide +kernel
theorem dX4_lose_14 : decode cX4_lose 14 = .ok (.iaload, 1) := by decide +kernel
theorem dX4_lose_15 : decode cX4_lose 15 = .ok (.bipush (-9), 2) := by decide +kernel
theorem dX4_lose_17 : decode cX4_lose 17 = .ok (.if_icmp .ne 7, 3) := by decide +kernel
theorem dX4_lose_20 : decode cX4_lose 20 = .ok (.iconst 0, 1) := by decide +kernel
theorem dX4_lose_21 : decode cX4_lose 21 = .ok (.goto 4, 3) := by decide +kernel
theorem dX4_lose_24 : decode cX4_lose 24 = .ok (.iconst 1, 1) := by decide +kernel
theorem dX4_lose_25 : decode cX4_lose 25 = .ok (.istore_n 2, 1) := by decide +kernel
theorem dX4_lose_26 : decode cX4_lose 26 = .ok (.aload_n 0, 1) := by decide +kernel
theorem dX4_lose_27 : decode cX4_lose 27 = .ok (.getfield 9, 3) := by decide +kernel
theorem dX4_lose_30 : decode cX4_lose 30 = .ok (.iload_n 1, 1) := by decide +kernel
theorem dX4_lose_31 : decode cX4_lose 31 = .ok (.bipush (-9), 2) := by decide +kernel
theorem dX4_lose_33 : decode cX4_lose 33 = .ok (.iastore, 1) := by decide +kernel
theorem dX4_lose_34 : decode cX4_lose 34 = .ok (.iload_n 2, 1) := by decide +kernel
theorem dX4_lose_35 : decode cX4_lose 35 = .ok (.ireturn, 1) := by decide +kernel
theorem dX4_put_0 : decode cX4_put 0 = .ok (.aload_n 0, 1) := by decide +kernel
theorem dX4_put_1 : decode cX4_put 1 = .ok (.iconst 0, 1) := by decide +kernel
theorem dX4_put_2 : decode cX4_put 2 = .ok (.putfield 76, 3) := by decide +kernel
theorem dX4_put_5 : decode cX4_put 5 = .ok (.iload_n 1, 1) := by decide +kernel
theorem dX4_put_6 : decode cX4_put 6 = .ok (.invokestatic 92, 3) := by decide +kernel
theorem dX4_put_9 : decode cX4_put 9 = .ok (.ifCond .ne 5, 3) := by decide +kernel
theorem dX4_put_12 : decode cX4_put 12 = .ok (.iconst (-1), 1) := by decide +kernel
theorem dX4_put_13 : decode cX4_put 13 = .ok (.ireturn, 1) := by decide +kernel
theorem dX4_put_14 : decode cX4_put 14 = .ok (.aload_n 0, 1) := by decide +kernel
theorem dX4_put_15 : decode cX4_put 15 = .ok (.getfield 9, 3) := by decide +kernel
theorem dX4_put_18 : decode cX4_put 18 = .ok (.iload_n 1, 1) := by decide +kernel
theorem dX4_put_19 : decode cX4_put 19 = .ok (.iaload, 1) := by decide +kernel
theorem dX4_put_20 : decode cX4_put 20 = .ok (.bipush (-9), 2) := by decide +kernel
theorem dX4_put_22 : decode cX4_put 22 = .ok (.if_icmp .ne 9, 3) := by decide +kernel
theorem dX4_put_25 : decode cX4_put 25 = .ok (.aload_n 0, 1) := by decide +kernel
theorem dX4_put_26 : decode cX4_put 26 = .ok (.iconst 1, 1) := by decide +kernel
theorem dX4_put_27 : decode cX4_put 27 = .ok (.invokevirtual 103, 3) := by decide +kernel
theorem dX4_put_30 : decode cX4_put 30 = .ok (.ireturn, 1) := by decide +kernel
theorem dX4_put_31 : decode cX4_put 31 = .ok (.iload_n 2, 1) := by decide +kernel
theorem dX4_put_32 : decode cX4_put 32 = .ok (.iconst 0, 1) := by decide +kernel
theorem dX4_put_33 : decode cX4_put 33 = .ok (.aload_n 0, 1) := by decide +kernel
theorem dX4_put_34 : decode cX4_put 34 = .ok (.getfield 13, 3) := by decide +kernel
theorem dX4_put_37 : decode cX4_put 37 = .ok (.iload_n 1, 1) := by decide +kernel
theorem dX4_put_38 : decode cX4_put 38 = .ok (.iaload, 1) := by decide +kernel
theorem dX4_put_39 : decode cX4_put 39 = .ok (.iconst 1, 1) := by decide +kernel
theorem dX4_put_40 : decode cX4_put 40 = .ok (.isub, 1) := by decide +kernel
theorem dX4_put_41 : decode cX4_put 41 = .ok (.invokestatic 82, 3) := by decide +kernel
theorem dX4_put_44 : decode cX4_put 44 = .ok (.ifCond .ne 9, 3) := by decide +kernel
theorem dX4_put_47 : decode cX4_put 47 = .ok (.aload_n 0, 1) := by decide +kernel
theorem dX4_put_48 : decode cX4_put 48 = .ok (.iconst 3, 1) := by decide +kernel
theorem dX4_put_49 : decode cX4_put 49 = .ok (.invokevirtual 103, 3) := by decide +kernel
theorem dX4_put_52 : decode cX4_put 52 = .ok (.ireturn, 1) := by decide +kernel
theorem dX4_put_53 : decode cX4_put 53 = .ok (.aload_n 0, 1) := by decide +kernel
theorem dX4_put_54 : decode cX4_put 54 = .ok (.getfield 16, 3) := by decide +kernel
theorem dX4_put_57 : decode cX4_put 57 = .ok (.bipush 60, 2) := by decide +kernel
theorem dX4_put_59 : decode cX4_put 59 = .ok (.iload_n 1, 1) := by decide +kernel
theorem dX4_put_60 : decode cX4_put 60 = .ok (.imul, 1) := by decide +kernel
theorem dX4_put_61 : decode cX4_put 61 = .ok (.iload_n 2, 1) := by decide +kernel
theorem dX4_put_62 : decode cX4_put 62 = .ok (.iadd, 1) := by decide +kernel
theorem dX4_put_63 : decode cX4_put 63 = .ok (.aload_n 0, 1) := by decide +kernel
theorem dX4_put_64 : decode cX4_put 64 = .ok (.getfield 9, 3) := by decide +kernel
theorem dX4_put_67 : decode cX4_put 67 = .ok (.iload_n 1, 1) := by decide +kernel
theorem dX4_put_68 : decode cX4_put 68 = .ok (.iaload, 1) := by decide +kernel
theorem dX4_put_69 : decode cX4_put 69 = .ok (.ifCond .ne 8, 3) := by decide +kernel
theorem dX4_put_72 : decode cX4_put 72 = .ok (.iload_n 3, 1) := by decide +kernel
theorem dX4_put_73 : decode cX4_put 73 = .ok (.i2b, 1) := by decide +kernel
theorem dX4_put_74 : decode cX4_put 74 = .ok (.goto 19, 3) := by decide +kernel
theorem dX4_put_77 : decode cX4_put 77 = .ok (.aload_n 0, 1) := by decide +kernel
theorem dX4_put_78 : decode cX4_put 78 = .ok (.getfield 9, 3) := by decide +kernel
theorem dX4_put_81 : decode cX4_put 81 = .ok (.iload_n 1, 1) := by decide +kernel
theorem dX4_put_82 : decode cX4_put 82 = .ok (.iaload, 1) := by decide +kernel
theorem dX4_put_83 : decode cX4_put 83 = .ok (.iconst 1, 1) := by decide +kernel
theorem dX4_put_84 : decode cX4_put 84 = .ok (.if_icmp .ne 8, 3) := by decide +kernel
theorem dX4_put_87 : decode cX4_put 87 = .ok (.iload_n 3, 1) := by decide +kernel
theorem dX4_put_88 : decode cX4_put 88 = .ok (.i2s, 1) := by decide +kernel
theorem dX4_put_89 : decode cX4_put 89 = .ok (.goto 4, 3) := by decide +kernel
theorem dX4_put_92 : decode cX4_put 92 = .ok (.iload_n 3, 1) := by decide +kernel
theorem dX4_put_93 : decode cX4_put 93 = .ok (.iastore, 1) := by decide +kernel
theorem dX4_put_94 : decode cX4_put 94 = .ok (.iconst 1, 1) := by decide +kernel
theorem dX4_put_95 : decode cX4_put 95 = .ok (.ireturn, 1) := by decide +kernel
theorem dX4_cell_0 : decode cX4_cell 0 = .ok (.aload_n 0, 1) := by decide +kernel
theorem dX4_cell_1 : decode cX4_cell 1 = .ok (.iconst 0, 1) := by decide +kernel
theorem dX4_cell_2 : decode cX4_cell 2 = .ok (.putfield 76, 3) := by decide +kernel
theorem dX4_cell_5 : decode cX4_cell 5 = .ok (.iload_n 1, 1) := by decide +kernel
theorem dX4_cell_6 : decode cX4_cell 6 = .ok (.invokestatic 92, 3) := by decide +kernel
theorem dX4_cell_9 : decode cX4_cell 9 = .ok (.ifCond .eq 10, 3) := by decide +kernel
theorem dX4_cell_12 : decode cX4_cell 12 = .ok (.iload_n 3, 1) := by decide +kernel
theorem dX4_cell_13 : decode cX4_cell 13 = .ok (.invokestatic 96, 3) := by decide +kernel
theorem dX4_cell_16 : decode cX4_cell 16 = .ok (.ifCond .ne 7, 3) := by decide +kernel
theorem dX4_cell_19 : decode cX4_cell 19 = .ok (.ldc2_w 80, 3) := by decide +kernel
theorem dX4_cell_22 : decode cX4_cell 22 = .ok (.lreturn, 1) := by decide +kernel
theorem dX4_cell_23 : decode cX4_cell 23 = .ok (.aload_n 0, 1) := by decide +kernel
theorem dX4_cell_24 : decode cX4_cell 24 = .ok (.getfield 9, 3) := by decide +kernel
theorem dX4_cell_27 : decode cX4_cell 27 = .ok (.iload_n 1, 1) := by decide +kernel
theorem dX4_cell_28 : decode cX4_cell 28 = .ok (.iaload, 1) := by decide +kernel
theorem dX4_cell_29 : decode cX4_cell 29 = .ok (.bipush (-9), 2) := by decide +kernel
theorem dX4_cell_31 : decode cX4_cell 31 = .ok (.if_icmp .eq 19, 3) := by decide +kernel
theorem dX4_cell_34 : decode cX4_cell 34 = .ok (.aload_n 0, 1) := by decide +kernel
theorem dX4_cell_35 : decode cX4_cell 35 = .ok (.getfield 9, 3) := by decide +kernel
theorem dX4_cell_38 : decode cX4_cell 38 = .ok (.iload_n 1, 1) := by decide +kernel
theorem dX4_cell_39 : decode cX4_cell 39 = .ok (.iaload, 1) := by decide +kernel
theorem dX4_cell_40 : decode cX4_cell 40 = .ok (.iload_n 3, 1) := by decide +kernel
theorem dX4_cell_41 : decode cX4_cell 41 = .ok (.if_icmp .eq 9, 3) := by decide +kernel
theorem dX4_cell_44 : decode cX4_cell 44 = .ok (.aload_n 0, 1) := by decide +kernel
theorem dX4_cell_45 : decode cX4_cell 45 = .ok (.iconst 2, 1) := by decide +kernel
theorem dX4_cell_46 : decode cX4_cell 46 = .ok (.invokevirtual 241, 3) := by decide +kernel
theorem dX4_cell_49 : decode cX4_cell 49 = .ok (.lreturn, 1) := by decide +kernel
theorem dX4_cell_50 : decode cX4_cell 50 = .ok (.aload_n 0, 1) := by decide +kernel
theorem dX4_cell_51 : decode cX4_cell 51 = .ok (.getfield 9, 3) := by decide +kernel
theorem dX4_cell_54 : decode cX4_cell 54 = .ok (.iload_n 1, 1) := by decide +kernel
theorem dX4_cell_55 : decode cX4_cell 55 = .ok (.iaload, 1) := by decide +kernel
theorem dX4_cell_56 : decode cX4_cell 56 = .ok (.bipush (-9), 2) := by decide +kernel
theorem dX4_cell_58 : decode cX4_cell 58 = .ok (.if_icmp .ne 9, 3) := by decide +kernel
theorem dX4_cell_61 : decode cX4_cell 61 = .ok (.aload_n 0, 1) := by decide +kernel
theorem dX4_cell_62 : decode cX4_cell 62 = .ok (.iconst 1, 1) := by decide +kernel
theorem dX4_cell_63 : decode cX4_cell 63 = .ok (.invokevirtual 241, 3) := by decide +kernel
theorem dX4_cell_66 : decode cX4_cell 66 = .ok (.lreturn, 1) := by decide +kernel
theorem dX4_cell_67 : decode cX4_cell 67 = .ok (.iload_n 2, 1) := by decide +kernel
theorem dX4_cell_68 : decode cX4_cell 68 = .ok (.iconst 0, 1) := by decide +kernel
theorem dX4_cell_69 : decode cX4_cell 69 = .ok (.aload_n 0, 1) := by decide +kernel
theorem dX4_cell_70 : decode cX4_cell 70 = .ok (.getfield 13, 3) := by decide +kernel
theorem dX4_cell_73 : decode cX4_cell 73 = .ok (.iload_n 1, 1) := by decide +kernel
theorem dX4_cell_74 : decode cX4_cell 74 = .ok (.iaload, 1) := by decide +kernel
theorem dX4_cell_75 : decode cX4_cell 75 = .ok (.iconst 1, 1) := by decide +kernel
theorem dX4_cell_76 : decode cX4_cell 76 = .ok (.isub, 1) := by decide +kernel
theorem dX4_cell_77 : decode cX4_cell 77 = .ok (.invokestatic 82, 3) := by decide +kernel
theorem dX4_cell_80 : decode cX4_cell 80 = .ok (.ifCond .ne 9, 3) := by decide +kernel
theorem dX4_cell_83 : decode cX4_cell 83 = .ok (.aload_n 0, 1) := by decide +kernel
theorem dX4_cell_84 : decode cX4_cell 84 = .ok (.iconst 3, 1) := by decide +kernel
theorem dX4_cell_85 : decode cX4_cell 85 = .ok (.invokevirtual 241, 3) := by decide +kernel
theorem dX4_cell_88 : decode cX4_cell 88 = .ok (.lreturn, 1) := by decide +kernel
theorem dX4_cell_89 : decode cX4_cell 89 = .ok (.aload_n 0, 1) := by decide +kernel
theorem dX4_cell_90 : decode cX4_cell 90 = .ok (.getfield 16, 3) := by decide +kernel
theorem dX4_cell_93 : decode cX4_cell 93 = .ok (.bipush 60, 2) := by decide +kernel
theorem dX4_cell_95 : decode cX4_cell 95 = .ok (.iload_n 1, 1) := by decide +kernel
theorem dX4_cell_96 : decode cX4_cell 96 = .ok (.imul, 1) := by decide +kernel
theorem dX4_cell_97 : decode cX4_cell 97 = .ok (.iload_n 2, 1) := by decide +kernel
theorem dX4_cell_98 : decode cX4_cell 98 = .ok (.iadd, 1) := by decide +kernel
theorem dX4_cell_99 : decode cX4_cell 99 = .ok (.iaload, 1) := by decide +kernel
theorem dX4_cell_100 : decode cX4_cell 100 = .ok (.i2l, 1) := by decide +kernel
theorem dX4_cell_101 : decode cX4_cell 101 = .ok (.lreturn, 1) := by decide +kernel
theorem dX4_copy_0 : decode cX4_copy 0 = .ok (.aload_n 0, 1) := by decide +kernel
theorem dX4_copy_1 : decode cX4_copy 1 = .ok (.iconst 0, 1) := by decide +kernel
theorem dX4_copy_2 : decode cX4_copy 2 = .ok (.putfield 76, 3) := by decide +kernel
theorem dX4_copy_5 : decode cX4_copy 5 = .ok (.iload_n 1, 1) := by decide +kernel
theorem dX4_copy_6 : decode cX4_copy 6 = .ok (.invokestatic 92, 3) := by decide +kernel
theorem dX4_copy_9 : decode cX4_copy 9 = .ok (.ifCond .eq 10, 3) := by decide +kernel
theorem dX4_copy_12 : decode cX4_copy 12 = .ok (.iload_n 3, 1) := by decide +kernel
theorem dX4_copy_13 : decode cX4_copy 13 = .ok (.invokestatic 92, 3) := by decide +kernel
theorem dX4_copy_16 : decode cX4_copy 16 = .ok (.ifCond .ne 5, 3) := by decide +kernel
theorem dX4_copy_19 : decode cX4_copy 19 = .ok (.iconst (-1), 1) := by decide +kernel
theorem dX4_copy_20 : decode cX4_copy 20 = .ok (.ireturn, 1) := by decide +kernel
theorem dX4_copy_21 : decode cX4_copy 21 = .ok (.aload_n 0, 1) := by decide +kernel
theorem dX4_copy_22 : decode cX4_copy 22 = .ok (.getfield 9, 3) := by decide +kernel
theorem dX4_copy_25 : decode cX4_copy 25 = .ok (.iload_n 1, 1) := by decide +kernel
theorem dX4_copy_26 : decode cX4_copy 26 = .ok (.iaload, 1) := by decide +kernel
theorem dX4_copy_27 : decode cX4_copy 27 = .ok (.bipush (-9), 2) := by decide +kernel
theorem dX4_copy_29 : decode cX4_copy 29 = .ok (.if_icmp .eq 14, 3) := by decide +kernel
theorem dX4_copy_32 : decode cX4_copy 32 = .ok (.aload_n 0, 1) := by decide +kernel
theorem dX4_copy_33 : decode cX4_copy 33 = .ok (.getfield 9, 3) := by decide +kernel
theorem dX4_copy_36 : decode cX4_copy 36 = .ok (.iload_n 3, 1) := by decide +kernel
theorem dX4_copy_37 : decode cX4_copy 37 = .ok (.iaload, 1) := by decide +kernel
theorem dX4_copy_38 : decode cX4_copy 38 = .ok (.bipush (-9), 2) := by decide +kernel
theorem dX4_copy_40 : decode cX4_copy 40 = .ok (.if_icmp .ne 9, 3) := by decide +kernel
theorem dX4_copy_43 : decode cX4_copy 43 = .ok (.aload_n 0, 1) := by decide +kernel
theorem dX4_copy_44 : decode cX4_copy 44 = .ok (.iconst 1, 1) := by decide +kernel
theorem dX4_copy_45 : decode cX4_copy 45 = .ok (.invokevirtual 103, 3) := by decide +kernel
theorem dX4_copy_48 : decode cX4_copy 48 = .ok (.ireturn, 1) := by decide +kernel
theorem dX4_copy_49 : decode cX4_copy 49 = .ok (.aload_n 0, 1) := by decide +kernel
theorem dX4_copy_50 : decode cX4_copy 50 = .ok (.getfield 9, 3) := by decide +kernel
theorem dX4_copy_53 : decode cX4_copy 53 = .ok (.iload_n 1, 1) := by decide +kernel
theorem dX4_copy_54 : decode cX4_copy 54 = .ok (.iaload, 1) := by decide +kernel
theorem dX4_copy_55 : decode cX4_copy 55 = .ok (.aload_n 0, 1) := by decide +kernel
theorem dX4_copy_56 : decode cX4_copy 56 = .ok (.getfield 9, 3) := by decide +kernel
theorem dX4_copy_59 : decode cX4_copy 59 = .ok (.iload_n 3, 1) := by decide +kernel
theorem dX4_copy_60 : decode cX4_copy 60 = .ok (.iaload, 1) := by decide +kernel
theorem dX4_copy_61 : decode cX4_copy 61 = .ok (.if_icmp .eq 9, 3) := by decide +kernel
theorem dX4_copy_64 : decode cX4_copy 64 = .ok (.aload_n 0, 1) := by decide +kernel
theorem dX4_copy_65 : decode cX4_copy 65 = .ok (.iconst 2, 1) := by decide +kernel
theorem dX4_copy_66 : decode cX4_copy 66 = .ok (.invokevirtual 103, 3) := by decide +kernel
theorem dX4_copy_69 : decode cX4_copy 69 = .ok (.ireturn, 1) := by decide +kernel
theorem dX4_copy_70 : decode cX4_copy 70 = .ok (.iload_n 2, 1) := by decide +kernel
theorem dX4_copy_71 : decode cX4_copy 71 = .ok (.ifCond .lt 38, 3) := by decide +kernel
theorem dX4_copy_74 : decode cX4_copy 74 = .ok (.iload 4, 2) := by decide +kernel
theorem dX4_copy_76 : decode cX4_copy 76 = .ok (.ifCond .lt 33, 3) := by decide +kernel
theorem dX4_copy_79 : decode cX4_copy 79 = .ok (.iload 5, 2) := by decide +kernel
theorem dX4_copy_81 : decode cX4_copy 81 = .ok (.ifCond .lt 28, 3) := by decide +kernel
theorem dX4_copy_84 : decode cX4_copy 84 = .ok (.iload_n 2, 1) := by decide +kernel
theorem dX4_copy_85 : decode cX4_copy 85 = .ok (.aload_n 0, 1) := by decide +kernel
theorem dX4_copy_86 : decode cX4_copy 86 = .ok (.getfield 13, 3) := by decide +kernel
theorem dX4_copy_89 : decode cX4_copy 89 = .ok (.iload_n 1, 1) := by decide +kernel
theorem dX4_copy_90 : decode cX4_copy 90 = .ok (.iaload, 1) := by decide +kernel
theorem dX4_copy_91 : decode cX4_copy 91 = .ok (.if_icmp .gt 18, 3) := by decide +kernel
theorem dX4_copy_94 : decode cX4_copy 94 = .ok (.iload 4, 2) := by decide +kernel
theorem dX4_copy_96 : decode cX4_copy 96 = .ok (.aload_n 0, 1) := by decide +kernel
theorem dX4_copy_97 : decode cX4_copy 97 = .ok (.getfield 13, 3) := by decide +kernel
theorem dX4_copy_100 : decode cX4_copy 100 = .ok (.iload_n 3, 1) := by decide +kernel
theorem dX4_copy_101 : decode cX4_copy 101 = .ok (.iaload, 1) := by decide +kernel
theorem dX4_copy_102 : decode cX4_copy 102 = .ok (.if_icmp .gt 7, 3) := by decide +kernel
theorem dX4_copy_105 : decode cX4_copy 105 = .ok (.iconst 1, 1) := by decide +kernel
theorem dX4_copy_106 : decode cX4_copy 106 = .ok (.goto 4, 3) := by decide +kernel
theorem dX4_copy_109 : decode cX4_copy 109 = .ok (.iconst 0, 1) := by decide +kernel
theorem dX4_copy_110 : decode cX4_copy 110 = .ok (.istore 6, 2) := by decide +kernel
theorem dX4_copy_112 : decode cX4_copy 112 = .ok (.iload 6, 2) := by decide +kernel
theorem dX4_copy_114 : decode cX4_copy 114 = .ok (.ifCond .eq 30, 3) := by decide +kernel
theorem dX4_copy_117 : decode cX4_copy 117 = .ok (.iload 5, 2) := by decide +kernel
theorem dX4_copy_119 : decode cX4_copy 119 = .ok (.aload_n 0, 1) := by decide +kernel
theorem dX4_copy_120 : decode cX4_copy 120 = .ok (.getfield 13, 3) := by decide +kernel
theorem dX4_copy_123 : decode cX4_copy 123 = .ok (.iload_n 1, 1) := by decide +kernel
theorem dX4_copy_124 : decode cX4_copy 124 = .ok (.iaload, 1) := by decide +kernel
theorem dX4_copy_125 : decode cX4_copy 125 = .ok (.iload_n 2, 1) := by decide +kernel
theorem dX4_copy_126 : decode cX4_copy 126 = .ok (.isub, 1) := by decide +kernel
theorem dX4_copy_127 : decode cX4_copy 127 = .ok (.if_icmp .gt 17, 3) := by decide +kernel
theorem dX4_copy_130 : decode cX4_copy 130 = .ok (.iload 5, 2) := by decide +kernel
theorem dX4_copy_132 : decode cX4_copy 132 = .ok (.aload_n 0, 1) := by decide +kernel
theorem dX4_copy_133 : decode cX4_copy 133 = .ok (.getfield 13, 3) := by decide +kernel
theorem dX4_copy_136 : decode cX4_copy 136 = .ok (.iload_n 3, 1) := by decide +kernel
theorem dX4_copy_137 : decode cX4_copy 137 = .ok (.iaload, 1) := by decide +kernel
theorem dX4_copy_138 : decode cX4_copy 138 = .ok (.iload 4, 2) := by decide +kernel
theorem dX4_copy_140 : decode cX4_copy 140 = .ok (.isub, 1) := by decide +kernel
theorem dX4_copy_141 : decode cX4_copy 141 = .ok (.if_icmp .le 9, 3) := by decide +kernel
theorem dX4_copy_144 : decode cX4_copy 144 = .ok (.aload_n 0, 1) := by decide +kernel
theorem dX4_copy_145 : decode cX4_copy 145 = .ok (.iconst 3, 1) := by decide +kernel
theorem dX4_copy_146 : decode cX4_copy 146 = .ok (.invokevirtual 103, 3) := by decide +kernel
theorem dX4_copy_149 : decode cX4_copy 149 = .ok (.ireturn, 1) := by decide +kernel
theorem dX4_copy_150 : decode cX4_copy 150 = .ok (.iload_n 2, 1) := by decide +kernel
theorem dX4_copy_151 : decode cX4_copy 151 = .ok (.iload 4, 2) := by decide +kernel
theorem dX4_copy_153 : decode cX4_copy 153 = .ok (.if_icmp .ge 7, 3) := by decide +kernel
theorem dX4_copy_156 : decode cX4_copy 156 = .ok (.iconst 1, 1) := by decide +kernel
theorem dX4_copy_157 : decode cX4_copy 157 = .ok (.goto 4, 3) := by decide +kernel
theorem dX4_copy_160 : decode cX4_copy 160 = .ok (.iconst 0, 1) := by decide +kernel
theorem dX4_copy_161 : decode cX4_copy 161 = .ok (.istore 7, 2) := by decide +kernel
theorem dX4_copy_163 : decode cX4_copy 163 = .ok (.iconst 0, 1) := by decide +kernel
theorem dX4_copy_164 : decode cX4_copy 164 = .ok (.istore 8, 2) := by decide +kernel
theorem dX4_copy_166 : decode cX4_copy 166 = .ok (.iload 8, 2) := by decide +kernel
theorem dX4_copy_168 : decode cX4_copy 168 = .ok (.iload 5, 2) := by decide +kernel
theorem dX4_copy_170 : decode cX4_copy 170 = .ok (.if_icmp .ge 57, 3) := by decide +kernel
theorem dX4_copy_173 : decode cX4_copy 173 = .ok (.iload 7, 2) := by decide +kernel
theorem dX4_copy_175 : decode cX4_copy 175 = .ok (.ifCond .eq 13, 3) := by decide +kernel
theorem dX4_copy_178 : decode cX4_copy 178 = .ok (.iload 5, 2) := by decide +kernel
theorem dX4_copy_180 : decode cX4_copy 180 = .ok (.iconst 1, 1) := by decide +kernel
theorem dX4_copy_181 : decode cX4_copy 181 = .ok (.isub, 1) := by decide +kernel
theorem dX4_copy_182 : decode cX4_copy 182 = .ok (.iload 8, 2) := by decide +kernel
theorem dX4_copy_184 : decode cX4_copy 184 = .ok (.isub, 1) := by decide +kernel
theorem dX4_copy_185 : decode cX4_copy 185 = .ok (.goto 5, 3) := by decide +kernel
theorem dX4_copy_188 : decode cX4_copy 188 = .ok (.iload 8, 2) := by decide +kernel
theorem dX4_copy_190 : decode cX4_copy 190 = .ok (.istore 9, 2) := by decide +kernel
theorem dX4_copy_192 : decode cX4_copy 192 = .ok (.aload_n 0, 1) := by decide +kernel
theorem dX4_copy_193 : decode cX4_copy 193 = .ok (.getfield 16, 3) := by decide +kernel
theorem dX4_copy_196 : decode cX4_copy 196 = .ok (.bipush 60, 2) := by decide +kernel
theorem dX4_copy_198 : decode cX4_copy 198 = .ok (.iload_n 3, 1) := by decide +kernel
theorem dX4_copy_199 : decode cX4_copy 199 = .ok (.imul, 1) := by decide +kernel
theorem dX4_copy_200 : decode cX4_copy 200 = .ok (.iload 4, 2) := by decide +kernel
theorem dX4_copy_202 : decode cX4_copy 202 = .ok (.iadd, 1) := by decide +kernel
theorem dX4_copy_203 : decode cX4_copy 203 = .ok (.iload 9, 2) := by decide +kernel
theorem dX4_copy_205 : decode cX4_copy 205 = .ok (.iadd, 1) := by decide +kernel
theorem dX4_copy_206 : decode cX4_copy 206 = .ok (.aload_n 0, 1) := by decide +kernel
theorem dX4_copy_207 : decode cX4_copy 207 = .ok (.getfield 16, 3) := by decide +kernel
theorem dX4_copy_210 : decode cX4_copy 210 = .ok (.bipush 60, 2) := by decide +kernel
theorem dX4_copy_212 : decode cX4_copy 212 = .ok (.iload_n 1, 1) := by decide +kernel
theorem dX4_copy_213 : decode cX4_copy 213 = .ok (.imul, 1) := by decide +kernel
theorem dX4_copy_214 : decode cX4_copy 214 = .ok (.iload_n 2, 1) := by decide +kernel
theorem dX4_copy_215 : decode cX4_copy 215 = .ok (.iadd, 1) := by decide +kernel
theorem dX4_copy_216 : decode cX4_copy 216 = .ok (.iload 9, 2) := by decide +kernel
theorem dX4_copy_218 : decode cX4_copy 218 = .ok (.iadd, 1) := by decide +kernel
theorem dX4_copy_219 : decode cX4_copy 219 = .ok (.iaload, 1) := by decide +kernel
theorem dX4_copy_220 : decode cX4_copy 220 = .ok (.iastore, 1) := by decide +kernel
theorem dX4_copy_221 : decode cX4_copy 221 = .ok (.iinc 8 1, 3) := by decide +kernel
theorem dX4_copy_224 : decode cX4_copy 224 = .ok (.goto (-58), 3) := by decide +kernel
theorem dX4_copy_227 : decode cX4_copy 227 = .ok (.iload 5, 2) := by decide +kernel
theorem dX4_copy_229 : decode cX4_copy 229 = .ok (.ireturn, 1) := by decide +kernel
theorem dX4_begins_0 : decode cX4_begins 0 = .ok (.aload_n 0, 1) := by decide +kernel
theorem dX4_begins_1 : decode cX4_begins 1 = .ok (.bipush 31, 2) := by decide +kernel
theorem dX4_begins_3 : decode cX4_begins 3 = .ok (.aload_n 0, 1) := by decide +kernel
theorem dX4_begins_4 : decode cX4_begins 4 = .ok (.getfield 245, 3) := by decide +kernel
theorem dX4_begins_7 : decode cX4_begins 7 = .ok (.imul, 1) := by decide +kernel
theorem dX4_begins_8 : decode cX4_begins 8 = .ok (.iload_n 1, 1) := by decide +kernel
theorem dX4_begins_9 : decode cX4_begins 9 = .ok (.iadd, 1) := by decide +kernel
theorem dX4_begins_10 : decode cX4_begins 10 = .ok (.putfield 245, 3) := by decide +kernel
theorem dX4_begins_13 : decode cX4_begins 13 = .ok (.return_, 1) := by decide +kernel
theorem dX4_tell_0 : decode cX4_tell 0 = .ok (.aload_n 0, 1) := by decide +kernel
theorem dX4_tell_1 : decode cX4_tell 1 = .ok (.iload_n 1, 1) := by decide +kernel
theorem dX4_tell_2 : decode cX4_tell 2 = .ok (.invokevirtual 173, 3) := by decide +kernel
theorem dX4_tell_5 : decode cX4_tell 5 = .ok (.ifCond .ne 5, 3) := by decide +kernel
theorem dX4_tell_8 : decode cX4_tell 8 = .ok (.iconst (-1), 1) := by decide +kernel
theorem dX4_tell_9 : decode cX4_tell 9 = .ok (.ireturn, 1) := by decide +kernel
theorem dX4_tell_10 : decode cX4_tell 10 = .ok (.aload_n 0, 1) := by decide +kernel
theorem dX4_tell_11 : decode cX4_tell 11 = .ok (.getfield 22, 3) := by decide +kernel
theorem dX4_tell_14 : decode cX4_tell 14 = .ok (.iload_n 1, 1) := by decide +kernel
theorem dX4_tell_15 : decode cX4_tell 15 = .ok (.iaload, 1) := by decide +kernel
theorem dX4_tell_16 : decode cX4_tell 16 = .ok (.istore_n 2, 1) := by decide +kernel
theorem dX4_tell_17 : decode cX4_tell 17 = .ok (.aload_n 0, 1) := by decide +kernel
theorem dX4_tell_18 : decode cX4_tell 18 = .ok (.getfield 19, 3) := by decide +kernel
theorem dX4_tell_21 : decode cX4_tell 21 = .ok (.iload_n 1, 1) := by decide +kernel
theorem dX4_tell_22 : decode cX4_tell 22 = .ok (.iaload, 1) := by decide +kernel
theorem dX4_tell_23 : decode cX4_tell 23 = .ok (.lookupswitch 67 #[(1, 25), (2, 40)], 25) := by decide +kernel
theorem dX4_tell_48 : decode cX4_tell 48 = .ok (.aload_n 0, 1) := by decide +kernel
theorem dX4_tell_49 : decode cX4_tell 49 = .ok (.iconst 2, 1) := by decide +kernel
theorem dX4_tell_50 : decode cX4_tell 50 = .ok (.invokevirtual 248, 3) := by decide +kernel
theorem dX4_tell_53 : decode cX4_tell 53 = .ok (.aload_n 0, 1) := by decide +kernel
theorem dX4_tell_54 : decode cX4_tell 54 = .ok (.iconst 1, 1) := by decide +kernel
theorem dX4_tell_55 : decode cX4_tell 55 = .ok (.invokevirtual 248, 3) := by decide +kernel
theorem dX4_tell_58 : decode cX4_tell 58 = .ok (.iload_n 2, 1) := by decide +kernel
theorem dX4_tell_59 : decode cX4_tell 59 = .ok (.bipush 100, 2) := by decide +kernel
theorem dX4_tell_61 : decode cX4_tell 61 = .ok (.iadd, 1) := by decide +kernel
theorem dX4_tell_62 : decode cX4_tell 62 = .ok (.ireturn, 1) := by decide +kernel
theorem dX4_tell_63 : decode cX4_tell 63 = .ok (.aload_n 0, 1) := by decide +kernel
theorem dX4_tell_64 : decode cX4_tell 64 = .ok (.iconst 3, 1) := by decide +kernel
theorem dX4_tell_65 : decode cX4_tell 65 = .ok (.invokevirtual 248, 3) := by decide +kernel
theorem dX4_tell_68 : decode cX4_tell 68 = .ok (.aload_n 0, 1) := by decide +kernel
theorem dX4_tell_69 : decode cX4_tell 69 = .ok (.iconst 2, 1) := by decide +kernel
theorem dX4_tell_70 : decode cX4_tell 70 = .ok (.invokevirtual 248, 3) := by decide +kernel
theorem dX4_tell_73 : decode cX4_tell 73 = .ok (.aload_n 0, 1) := by decide +kernel
theorem dX4_tell_74 : decode cX4_tell 74 = .ok (.iconst 1, 1) := by decide +kernel
theorem dX4_tell_75 : decode cX4_tell 75 = .ok (.invokevirtual 248, 3) := by decide +kernel
theorem dX4_tell_78 : decode cX4_tell 78 = .ok (.aload_n 0, 1) := by decide +kernel
theorem dX4_tell_79 : decode cX4_tell 79 = .ok (.iconst 1, 1) := by decide +kernel
theorem dX4_tell_80 : decode cX4_tell 80 = .ok (.invokevirtual 248, 3) := by decide +kernel
theorem dX4_tell_83 : decode cX4_tell 83 = .ok (.iconst 2, 1) := by decide +kernel
theorem dX4_tell_84 : decode cX4_tell 84 = .ok (.iload_n 2, 1) := by decide +kernel
theorem dX4_tell_85 : decode cX4_tell 85 = .ok (.imul, 1) := by decide +kernel
theorem dX4_tell_86 : decode cX4_tell 86 = .ok (.bipush 100, 2) := by decide +kernel
theorem dX4_tell_88 : decode cX4_tell 88 = .ok (.iadd, 1) := by decide +kernel
theorem dX4_tell_89 : decode cX4_tell 89 = .ok (.ireturn, 1) := by decide +kernel
theorem dX4_tell_90 : decode cX4_tell 90 = .ok (.aload_n 0, 1) := by decide +kernel
theorem dX4_tell_91 : decode cX4_tell 91 = .ok (.iconst 1, 1) := by decide +kernel
theorem dX4_tell_92 : decode cX4_tell 92 = .ok (.invokevirtual 248, 3) := by decide +kernel
theorem dX4_tell_95 : decode cX4_tell 95 = .ok (.iload_n 2, 1) := by decide +kernel
theorem dX4_tell_96 : decode cX4_tell 96 = .ok (.ireturn, 1) := by decide +kernel
theorem dX4_survey_0 : decode cX4_survey 0 = .ok (.aload_n 0, 1) := by decide +kernel
theorem dX4_survey_1 : decode cX4_survey 1 = .ok (.iload_n 1, 1) := by decide +kernel
theorem dX4_survey_2 : decode cX4_survey 2 = .ok (.invokevirtual 173, 3) := by decide +kernel
theorem dX4_survey_5 : decode cX4_survey 5 = .ok (.ifCond .ne 5, 3) := by decide +kernel
theorem dX4_survey_8 : decode cX4_survey 8 = .ok (.iconst (-1), 1) := by decide +kernel
theorem dX4_survey_9 : decode cX4_survey 9 = .ok (.ireturn, 1) := by decide +kernel
theorem dX4_survey_10 : decode cX4_survey 10 = .ok (.aload_n 0, 1) := by decide +kernel
theorem dX4_survey_11 : decode cX4_survey 11 = .ok (.getfield 19, 3) := by decide +kernel
theorem dX4_survey_14 : decode cX4_survey 14 = .ok (.iload_n 1, 1) := by decide +kernel
theorem dX4_survey_15 : decode cX4_survey 15 = .ok (.iaload, 1) := by decide +kernel
theorem dX4_survey_16 : decode cX4_survey 16 = .ok (.iconst 2, 1) := by decide +kernel
theorem dX4_survey_17 : decode cX4_survey 17 = .ok (.if_icmp .ne 8, 3) := by decide +kernel
theorem dX4_survey_20 : decode cX4_survey 20 = .ok (.aload_n 0, 1) := by decide +kernel
theorem dX4_survey_21 : decode cX4_survey 21 = .ok (.iconst 5, 1) := by decide +kernel
theorem dX4_survey_22 : decode cX4_survey 22 = .ok (.invokevirtual 248, 3) := by decide +kernel
theorem dX4_survey_25 : decode cX4_survey 25 = .ok (.aload_n 0, 1) := by decide +kernel
theorem dX4_survey_26 : decode cX4_survey 26 = .ok (.iconst 4, 1) := by decide +kernel
theorem dX4_survey_27 : decode cX4_survey 27 = .ok (.invokevirtual 248, 3) := by decide +kernel
theorem dX4_survey_30 : decode cX4_survey 30 = .ok (.aload_n 0, 1) := by decide +kernel
theorem dX4_survey_31 : decode cX4_survey 31 = .ok (.getfield 19, 3) := by decide +kernel
theorem dX4_survey_34 : decode cX4_survey 34 = .ok (.iload_n 1, 1) := by decide +kernel
theorem dX4_survey_35 : decode cX4_survey 35 = .ok (.iaload, 1) := by decide +kernel
theorem dX4_survey_36 : decode cX4_survey 36 = .ok (.iconst 2, 1) := by decide +kernel
theorem dX4_survey_37 : decode cX4_survey 37 = .ok (.if_icmp .ne 15, 3) := by decide +kernel
theorem dX4_survey_40 : decode cX4_survey 40 = .ok (.aload_n 0, 1) := by decide +kernel
theorem dX4_survey_41 : decode cX4_survey 41 = .ok (.getfield 25, 3) := by decide +kernel
theorem dX4_survey_44 : decode cX4_survey 44 = .ok (.iload_n 1, 1) := by decide +kernel
theorem dX4_survey_45 : decode cX4_survey 45 = .ok (.iaload, 1) := by decide +kernel
theorem dX4_survey_46 : decode cX4_survey 46 = .ok (.bipush 30, 2) := by decide +kernel
theorem dX4_survey_48 : decode cX4_survey 48 = .ok (.iadd, 1) := by decide +kernel
theorem dX4_survey_49 : decode cX4_survey 49 = .ok (.goto 9, 3) := by decide +kernel
theorem dX4_survey_52 : decode cX4_survey 52 = .ok (.aload_n 0, 1) := by decide +kernel
theorem dX4_survey_53 : decode cX4_survey 53 = .ok (.getfield 25, 3) := by decide +kernel
theorem dX4_survey_56 : decode cX4_survey 56 = .ok (.iload_n 1, 1) := by decide +kernel
theorem dX4_survey_57 : decode cX4_survey 57 = .ok (.iaload, 1) := by decide +kernel
theorem dX4_survey_58 : decode cX4_survey 58 = .ok (.ireturn, 1) := by decide +kernel
theorem dX4_as_0 : decode cX4_as 0 = .ok (.aload_n 0, 1) := by decide +kernel
theorem dX4_as_1 : decode cX4_as 1 = .ok (.iconst 0, 1) := by decide +kernel
theorem dX4_as_2 : decode cX4_as 2 = .ok (.putfield 76, 3) := by decide +kernel
theorem dX4_as_5 : decode cX4_as 5 = .ok (.aload_n 0, 1) := by decide +kernel
theorem dX4_as_6 : decode cX4_as 6 = .ok (.iload_n 1, 1) := by decide +kernel
theorem dX4_as_7 : decode cX4_as 7 = .ok (.invokevirtual 173, 3) := by decide +kernel
theorem dX4_as_10 : decode cX4_as 10 = .ok (.ifCond .ne 5, 3) := by decide +kernel
theorem dX4_as_13 : decode cX4_as 13 = .ok (.iconst (-1), 1) := by decide +kernel
theorem dX4_as_14 : decode cX4_as 14 = .ok (.ireturn, 1) := by decide +kernel
theorem dX4_as_15 : decode cX4_as 15 = .ok (.iload_n 2, 1) := by decide +kernel
theorem dX4_as_16 : decode cX4_as 16 = .ok (.iconst 0, 1) := by decide +kernel
theorem dX4_as_17 : decode cX4_as 17 = .ok (.iconst 2, 1) := by decide +kernel
theorem dX4_as_18 : decode cX4_as 18 = .ok (.invokestatic 82, 3) := by decide +kernel
theorem dX4_as_21 : decode cX4_as 21 = .ok (.ifCond .ne 6, 3) := by decide +kernel
theorem dX4_as_24 : decode cX4_as 24 = .ok (.bipush (-2), 2) := by decide +kernel
theorem dX4_as_26 : decode cX4_as 26 = .ok (.ireturn, 1) := by decide +kernel
theorem dX4_as_27 : decode cX4_as 27 = .ok (.aload_n 0, 1) := by decide +kernel
theorem dX4_as_28 : decode cX4_as 28 = .ok (.getfield 19, 3) := by decide +kernel
theorem dX4_as_31 : decode cX4_as 31 = .ok (.iload_n 1, 1) := by decide +kernel
theorem dX4_as_32 : decode cX4_as 32 = .ok (.iaload, 1) := by decide +kernel
theorem dX4_as_33 : decode cX4_as 33 = .ok (.iload_n 2, 1) := by decide +kernel
theorem dX4_as_34 : decode cX4_as 34 = .ok (.if_icmp .lt 7, 3) := by decide +kernel
theorem dX4_as_37 : decode cX4_as 37 = .ok (.iconst 1, 1) := by decide +kernel
theorem dX4_as_38 : decode cX4_as 38 = .ok (.goto 8, 3) := by decide +kernel
theorem dX4_as_41 : decode cX4_as 41 = .ok (.aload_n 0, 1) := by decide +kernel
theorem dX4_as_42 : decode cX4_as 42 = .ok (.iconst 2, 1) := by decide +kernel
theorem dX4_as_43 : decode cX4_as 43 = .ok (.invokevirtual 103, 3) := by decide +kernel
theorem dX4_as_46 : decode cX4_as 46 = .ok (.ireturn, 1) := by decide +kernel
theorem dX4_trace_0 : decode cX4_trace 0 = .ok (.aload_n 0, 1) := by decide +kernel
theorem dX4_trace_1 : decode cX4_trace 1 = .ok (.getfield 245, 3) := by decide +kernel
theorem dX4_trace_4 : decode cX4_trace 4 = .ok (.ireturn, 1) := by decide +kernel
theorem dX4_fault_0 : decode cX4_fault 0 = .ok (.aload_n 0, 1) := by decide +kernel
theorem dX4_fault_1 : decode cX4_fault 1 = .ok (.getfield 76, 3) := by decide +kernel
theorem dX4_fault_4 : decode cX4_fault 4 = .ok (.ireturn, 1) := by decide +kernel
theorem dX4_many_0 : decode cX4_many 0 = .ok (.aload_n 0, 1) := by decide +kernel
theorem dX4_many_1 : decode cX4_many 1 = .ok (.invokevirtual 164, 3) := by decide +kernel
theorem dX4_many_4 : decode cX4_many 4 = .ok (.iload_n 1, 1) := by decide +kernel
theorem dX4_many_5 : decode cX4_many 5 = .ok (.tableswitch 51 0 3 #[31, 36, 41, 46], 31) := by decide +kernel
theorem dX4_many_36 : decode cX4_many 36 = .ok (.aload_n 0, 1) := by decide +kernel
theorem dX4_many_37 : decode cX4_many 37 = .ok (.getfield 86, 3) := by decide +kernel
theorem dX4_many_40 : decode cX4_many 40 = .ok (.ireturn, 1) := by decide +kernel
theorem dX4_many_41 : decode cX4_many 41 = .ok (.aload_n 0, 1) := by decide +kernel
theorem dX4_many_42 : decode cX4_many 42 = .ok (.getfield 136, 3) := by decide +kernel
theorem dX4_many_45 : decode cX4_many 45 = .ok (.ireturn, 1) := by decide +kernel
theorem dX4_many_46 : decode cX4_many 46 = .ok (.aload_n 0, 1) := by decide +kernel
theorem dX4_many_47 : decode cX4_many 47 = .ok (.getfield 139, 3) := by decide +kernel
theorem dX4_many_50 : decode cX4_many 50 = .ok (.ireturn, 1) := by decide +kernel
theorem dX4_many_51 : decode cX4_many 51 = .ok (.aload_n 0, 1) := by decide +kernel
theorem dX4_many_52 : decode cX4_many 52 = .ok (.getfield 113, 3) := by decide +kernel
theorem dX4_many_55 : decode cX4_many 55 = .ok (.ireturn, 1) := by decide +kernel
theorem dX4_many_56 : decode cX4_many 56 = .ok (.bipush (-2), 2) := by decide +kernel
theorem dX4_many_58 : decode cX4_many 58 = .ok (.ireturn, 1) := by decide +kernel
end
section
theorem dL_law_0 : decode cL_law 0 = .ok (.new 7, 3) := by decide +kernel
theorem dL_law_3 : decode cL_law 3 = .ok (.dup, 1) := by decide +kernel
theorem dL_law_4 : decode cL_law 4 = .ok (.invokespecial 9, 3) := by decide +kernel
theorem dL_law_7 : decode cL_law 7 = .ok (.astore_n 1, 1) := by decide +kernel
theorem dL_law_8 : decode cL_law 8 = .ok (.new 10, 3) := by decide +kernel
theorem dL_law_11 : decode cL_law 11 = .ok (.dup, 1) := by decide +kernel
theorem dL_law_12 : decode cL_law 12 = .ok (.invokespecial 12, 3) := by decide +kernel
theorem dL_law_15 : decode cL_law 15 = .ok (.astore_n 2, 1) := by decide +kernel
theorem dL_law_16 : decode cL_law 16 = .ok (.iconst 0, 1) := by decide +kernel
theorem dL_law_17 : decode cL_law 17 = .ok (.istore_n 3, 1) := by decide +kernel
theorem dL_law_18 : decode cL_law 18 = .ok (.iload_n 3, 1) := by decide +kernel
theorem dL_law_19 : decode cL_law 19 = .ok (.aload_n 0, 1) := by decide +kernel
theorem dL_law_20 : decode cL_law 20 = .ok (.arraylength, 1) := by decide +kernel
theorem dL_law_21 : decode cL_law 21 = .ok (.bipush 6, 2) := by decide +kernel
theorem dL_law_23 : decode cL_law 23 = .ok (.isub, 1) := by decide +kernel
theorem dL_law_24 : decode cL_law 24 = .ok (.if_icmp .gt 984, 3) := by decide +kernel
theorem dL_law_27 : decode cL_law 27 = .ok (.aload_n 0, 1) := by decide +kernel
theorem dL_law_28 : decode cL_law 28 = .ok (.iload_n 3, 1) := by decide +kernel
theorem dL_law_29 : decode cL_law 29 = .ok (.iaload, 1) := by decide +kernel
theorem dL_law_30 : decode cL_law 30 = .ok (.bipush 31, 2) := by decide +kernel
theorem dL_law_32 : decode cL_law 32 = .ok (.iand, 1) := by decide +kernel
theorem dL_law_33 : decode cL_law 33 = .ok (.tableswitch 969 0 25 #[119, 172, 205, 238, 271, 304, 327, 350, 413, 436, 489, 522, 545, 568, 591, 625, 668, 691, 734, 778, 841, 864, 887, 920, 933, 946], 119) := by decide +kernel
theorem dL_law_152 : decode cL_law 152 = .ok (.aload_n 1, 1) := by decide +kernel
theorem dL_law_153 : decode cL_law 153 = .ok (.aload_n 0, 1) := by decide +kernel
theorem dL_law_154 : decode cL_law 154 = .ok (.iload_n 3, 1) := by decide +kernel
theorem dL_law_155 : decode cL_law 155 = .ok (.iconst 1, 1) := by decide +kernel
theorem dL_law_156 : decode cL_law 156 = .ok (.iadd, 1) := by decide +kernel
theorem dL_law_157 : decode cL_law 157 = .ok (.iaload, 1) := by decide +kernel
theorem dL_law_158 : decode cL_law 158 = .ok (.aload_n 0, 1) := by decide +kernel
theorem dL_law_159 : decode cL_law 159 = .ok (.iload_n 3, 1) := by decide +kernel
theorem dL_law_160 : decode cL_law 160 = .ok (.iconst 2, 1) := by decide +kernel
theorem dL_law_161 : decode cL_law 161 = .ok (.iadd, 1) := by decide +kernel
theorem dL_law_162 : decode cL_law 162 = .ok (.iaload, 1) := by decide +kernel
theorem dL_law_163 : decode cL_law 163 = .ok (.aload_n 0, 1) := by decide +kernel
theorem dL_law_164 : decode cL_law 164 = .ok (.iload_n 3, 1) := by decide +kernel
theorem dL_law_165 : decode cL_law 165 = .ok (.iconst 3, 1) := by decide +kernel
theorem dL_law_166 : decode cL_law 166 = .ok (.iadd, 1) := by decide +kernel
theorem dL_law_167 : decode cL_law 167 = .ok (.iaload, 1) := by decide +kernel
theorem dL_law_168 : decode cL_law 168 = .ok (.aload_n 0, 1) := by decide +kernel
theorem dL_law_169 : decode cL_law 169 = .ok (.iload_n 3, 1) := by decide +kernel
theorem dL_law_170 : decode cL_law 170 = .ok (.iconst 4, 1) := by decide +kernel
theorem dL_law_171 : decode cL_law 171 = .ok (.iadd, 1) := by decide +kernel
theorem dL_law_172 : decode cL_law 172 = .ok (.iaload, 1) := by decide +kernel
theorem dL_law_173 : decode cL_law 173 = .ok (.invokevirtual 13, 3) := by decide +kernel
theorem dL_law_176 : decode cL_law 176 = .ok (.aload_n 2, 1) := by decide +kernel
theorem dL_law_177 : decode cL_law 177 = .ok (.aload_n 0, 1) := by decide +kernel
theorem dL_law_178 : decode cL_law 178 = .ok (.iload_n 3, 1) := by decide +kernel
theorem dL_law_179 : decode cL_law 179 = .ok (.iconst 1, 1) := by decide +kernel
theorem dL_law_180 : decode cL_law 180 = .ok (.iadd, 1) := by decide +kernel
theorem dL_law_181 : decode cL_law 181 = .ok (.iaload, 1) := by decide +kernel
theorem dL_law_182 : decode cL_law 182 = .ok (.aload_n 0, 1) := by decide +kernel
theorem dL_law_183 : decode cL_law 183 = .ok (.iload_n 3, 1) := by decide +kernel
theorem dL_law_184 : decode cL_law 184 = .ok (.iconst 2, 1) := by decide +kernel
theorem dL_law_185 : decode cL_law 185 = .ok (.iadd, 1) := by decide +kernel
theorem dL_law_186 : decode cL_law 186 = .ok (.iaload, 1) := by decide +kernel
theorem dL_law_187 : decode cL_law 187 = .ok (.aload_n 0, 1) := by decide +kernel
theorem dL_law_188 : decode cL_law 188 = .ok (.iload_n 3, 1) := by decide +kernel
theorem dL_law_189 : decode cL_law 189 = .ok (.iconst 3, 1) := by decide +kernel
theorem dL_law_190 : decode cL_law 190 = .ok (.iadd, 1) := by decide +kernel
theorem dL_law_191 : decode cL_law 191 = .ok (.iaload, 1) := by decide +kernel
theorem dL_law_192 : decode cL_law 192 = .ok (.aload_n 0, 1) := by decide +kernel
theorem dL_law_193 : decode cL_law 193 = .ok (.iload_n 3, 1) := by decide +kernel
theorem dL_law_194 : decode cL_law 194 = .ok (.iconst 4, 1) := by decide +kernel
theorem dL_law_195 : decode cL_law 195 = .ok (.iadd, 1) := by decide +kernel
theorem dL_law_196 : decode cL_law 196 = .ok (.iaload, 1) := by decide +kernel
theorem dL_law_197 : decode cL_law 197 = .ok (.invokevirtual 17, 3) := by decide +kernel
theorem dL_law_200 : decode cL_law 200 = .ok (.if_icmp .eq 802, 3) := by decide +kernel
theorem dL_law_203 : decode cL_law 203 = .ok (.iconst 0, 1) := by decide +kernel
theorem dL_law_204 : decode cL_law 204 = .ok (.ireturn, 1) := by decide +kernel
theorem dL_law_205 : decode cL_law 205 = .ok (.aload_n 1, 1) := by decide +kernel
theorem dL_law_206 : decode cL_law 206 = .ok (.aload_n 0, 1) := by decide +kernel
theorem dL_law_207 : decode cL_law 207 = .ok (.iload_n 3, 1) := by decide +kernel
theorem dL_law_208 : decode cL_law 208 = .ok (.iconst 1, 1) := by decide +kernel
theorem dL_law_209 : decode cL_law 209 = .ok (.iadd, 1) := by decide +kernel
theorem dL_law_210 : decode cL_law 210 = .ok (.iaload, 1) := by decide +kernel
theorem dL_law_211 : decode cL_law 211 = .ok (.aload_n 0, 1) := by decide +kernel
theorem dL_law_212 : decode cL_law 212 = .ok (.iload_n 3, 1) := by decide +kernel
theorem dL_law_213 : decode cL_law 213 = .ok (.iconst 2, 1) := by decide +kernel
theorem dL_law_214 : decode cL_law 214 = .ok (.iadd, 1) := by decide +kernel
theorem dL_law_215 : decode cL_law 215 = .ok (.iaload, 1) := by decide +kernel
theorem dL_law_216 : decode cL_law 216 = .ok (.invokevirtual 18, 3) := by decide +kernel
theorem dL_law_219 : decode cL_law 219 = .ok (.aload_n 2, 1) := by decide +kernel
theorem dL_law_220 : decode cL_law 220 = .ok (.aload_n 0, 1) := by decide +kernel
theorem dL_law_221 : decode cL_law 221 = .ok (.iload_n 3, 1) := by decide +kernel
theorem dL_law_222 : decode cL_law 222 = .ok (.iconst 1, 1) := by decide +kernel
theorem dL_law_223 : decode cL_law 223 = .ok (.iadd, 1) := by decide +kernel
theorem dL_law_224 : decode cL_law 224 = .ok (.iaload, 1) := by decide +kernel
theorem dL_law_225 : decode cL_law 225 = .ok (.aload_n 0, 1) := by decide +kernel
theorem dL_law_226 : decode cL_law 226 = .ok (.iload_n 3, 1) := by decide +kernel
theorem dL_law_227 : decode cL_law 227 = .ok (.iconst 2, 1) := by decide +kernel
theorem dL_law_228 : decode cL_law 228 = .ok (.iadd, 1) := by decide +kernel
theorem dL_law_229 : decode cL_law 229 = .ok (.iaload, 1) := by decide +kernel
theorem dL_law_230 : decode cL_law 230 = .ok (.invokevirtual 22, 3) := by decide +kernel
theorem dL_law_233 : decode cL_law 233 = .ok (.if_icmp .eq 769, 3) := by decide +kernel
theorem dL_law_236 : decode cL_law 236 = .ok (.iconst 0, 1) := by decide +kernel
theorem dL_law_237 : decode cL_law 237 = .ok (.ireturn, 1) := by decide +kernel
theorem dL_law_238 : decode cL_law 238 = .ok (.aload_n 1, 1) := by decide +kernel
theorem dL_law_239 : decode cL_law 239 = .ok (.aload_n 0, 1) := by decide +kernel
theorem dL_law_240 : decode cL_law 240 = .ok (.iload_n 3, 1) := by decide +kernel
theorem dL_law_241 : decode cL_law 241 = .ok (.iconst 1, 1) := by decide +kernel
theorem dL_law_242 : decode cL_law 242 = .ok (.iadd, 1) := by decide +kernel
theorem dL_law_243 : decode cL_law 243 = .ok (.iaload, 1) := by decide +kernel
theorem dL_law_244 : decode cL_law 244 = .ok (.aload_n 0, 1) := by decide +kernel
theorem dL_law_245 : decode cL_law 245 = .ok (.iload_n 3, 1) := by decide +kernel
theorem dL_law_246 : decode cL_law 246 = .ok (.iconst 2, 1) := by decide +kernel
theorem dL_law_247 : decode cL_law 247 = .ok (.iadd, 1) := by decide +kernel
theorem dL_law_248 : decode cL_law 248 = .ok (.iaload, 1) := by decide +kernel
theorem dL_law_249 : decode cL_law 249 = .ok (.invokevirtual 23, 3) := by decide +kernel
theorem dL_law_252 : decode cL_law 252 = .ok (.aload_n 2, 1) := by decide +kernel
theorem dL_law_253 : decode cL_law 253 = .ok (.aload_n 0, 1) := by decide +kernel
theorem dL_law_254 : decode cL_law 254 = .ok (.iload_n 3, 1) := by decide +kernel
theorem dL_law_255 : decode cL_law 255 = .ok (.iconst 1, 1) := by decide +kernel
theorem dL_law_256 : decode cL_law 256 = .ok (.iadd, 1) := by decide +kernel
theorem dL_law_257 : decode cL_law 257 = .ok (.iaload, 1) := by decide +kernel
theorem dL_law_258 : decode cL_law 258 = .ok (.aload_n 0, 1) := by decide +kernel
theorem dL_law_259 : decode cL_law 259 = .ok (.iload_n 3, 1) := by decide +kernel
theorem dL_law_260 : decode cL_law 260 = .ok (.iconst 2, 1) := by decide +kernel
theorem dL_law_261 : decode cL_law 261 = .ok (.iadd, 1) := by decide +kernel
theorem dL_law_262 : decode cL_law 262 = .ok (.iaload, 1) := by decide +kernel
theorem dL_law_263 : decode cL_law 263 = .ok (.invokevirtual 26, 3) := by decide +kernel
theorem dL_law_266 : decode cL_law 266 = .ok (.if_icmp .eq 736, 3) := by decide +kernel
theorem dL_law_269 : decode cL_law 269 = .ok (.iconst 0, 1) := by decide +kernel
theorem dL_law_270 : decode cL_law 270 = .ok (.ireturn, 1) := by decide +kernel
theorem dL_law_271 : decode cL_law 271 = .ok (.aload_n 1, 1) := by decide +kernel
theorem dL_law_272 : decode cL_law 272 = .ok (.aload_n 0, 1) := by decide +kernel
theorem dL_law_273 : decode cL_law 273 = .ok (.iload_n 3, 1) := by decide +kernel
theorem dL_law_274 : decode cL_law 274 = .ok (.iconst 1, 1) := by decide +kernel
theorem dL_law_275 : decode cL_law 275 = .ok (.iadd, 1) := by decide +kernel
theorem dL_law_276 : decode cL_law 276 = .ok (.iaload, 1) := by decide +kernel
theorem dL_law_277 : decode cL_law 277 = .ok (.aload_n 0, 1) := by decide +kernel
theorem dL_law_278 : decode cL_law 278 = .ok (.iload_n 3, 1) := by decide +kernel
theorem dL_law_279 : decode cL_law 279 = .ok (.iconst 2, 1) := by decide +kernel
theorem dL_law_280 : decode cL_law 280 = .ok (.iadd, 1) := by decide +kernel
theorem dL_law_281 : decode cL_law 281 = .ok (.iaload, 1) := by decide +kernel
theorem dL_law_282 : decode cL_law 282 = .ok (.invokevirtual 27, 3) := by decide +kernel
theorem dL_law_285 : decode cL_law 285 = .ok (.aload_n 2, 1) := by decide +kernel
theorem dL_law_286 : decode cL_law 286 = .ok (.aload_n 0, 1) := by decide +kernel
theorem dL_law_287 : decode cL_law 287 = .ok (.iload_n 3, 1) := by decide +kernel
theorem dL_law_288 : decode cL_law 288 = .ok (.iconst 1, 1) := by decide +kernel
theorem dL_law_289 : decode cL_law 289 = .ok (.iadd, 1) := by decide +kernel
theorem dL_law_290 : decode cL_law 290 = .ok (.iaload, 1) := by decide +kernel
theorem dL_law_291 : decode cL_law 291 = .ok (.aload_n 0, 1) := by decide +kernel
theorem dL_law_292 : decode cL_law 292 = .ok (.iload_n 3, 1) := by decide +kernel
theorem dL_law_293 : decode cL_law 293 = .ok (.iconst 2, 1) := by decide +kernel
theorem dL_law_294 : decode cL_law 294 = .ok (.iadd, 1) := by decide +kernel
theorem dL_law_295 : decode cL_law 295 = .ok (.iaload, 1) := by decide +kernel
theorem dL_law_296 : decode cL_law 296 = .ok (.invokevirtual 30, 3) := by decide +kernel
theorem dL_law_299 : decode cL_law 299 = .ok (.if_icmp .eq 703, 3) := by decide +kernel
theorem dL_law_302 : decode cL_law 302 = .ok (.iconst 0, 1) := by decide +kernel
theorem dL_law_303 : decode cL_law 303 = .ok (.ireturn, 1) := by decide +kernel
theorem dL_law_304 : decode cL_law 304 = .ok (.aload_n 1, 1) := by decide +kernel
theorem dL_law_305 : decode cL_law 305 = .ok (.aload_n 0, 1) := by decide +kernel
theorem dL_law_306 : decode cL_law 306 = .ok (.iload_n 3, 1) := by decide +kernel
theorem dL_law_307 : decode cL_law 307 = .ok (.iconst 1, 1) := by decide +kernel
theorem dL_law_308 : decode cL_law 308 = .ok (.iadd, 1) := by decide +kernel
theorem dL_law_309 : decode cL_law 309 = .ok (.iaload, 1) := by decide +kernel
theorem dL_law_310 : decode cL_law 310 = .ok (.aload_n 0, 1) := by decide +kernel
theorem dL_law_311 : decode cL_law 311 = .ok (.iload_n 3, 1) := by decide +kernel
theorem dL_law_312 : decode cL_law 312 = .ok (.iconst 2, 1) := by decide +kernel
theorem dL_law_313 : decode cL_law 313 = .ok (.iadd, 1) := by decide +kernel
theorem dL_law_314 : decode cL_law 314 = .ok (.iaload, 1) := by decide +kernel
theorem dL_law_315 : decode cL_law 315 = .ok (.invokevirtual 31, 3) := by decide +kernel
theorem dL_law_318 : decode cL_law 318 = .ok (.aload_n 2, 1) := by decide +kernel
theorem dL_law_319 : decode cL_law 319 = .ok (.aload_n 0, 1) := by decide +kernel
theorem dL_law_320 : decode cL_law 320 = .ok (.iload_n 3, 1) := by decide +kernel
theorem dL_law_321 : decode cL_law 321 = .ok (.iconst 1, 1) := by decide +kernel
theorem dL_law_322 : decode cL_law 322 = .ok (.iadd, 1) := by decide +kernel
theorem dL_law_323 : decode cL_law 323 = .ok (.iaload, 1) := by decide +kernel
theorem dL_law_324 : decode cL_law 324 = .ok (.aload_n 0, 1) := by decide +kernel
theorem dL_law_325 : decode cL_law 325 = .ok (.iload_n 3, 1) := by decide +kernel
theorem dL_law_326 : decode cL_law 326 = .ok (.iconst 2, 1) := by decide +kernel
theorem dL_law_327 : decode cL_law 327 = .ok (.iadd, 1) := by decide +kernel
theorem dL_law_328 : decode cL_law 328 = .ok (.iaload, 1) := by decide +kernel
theorem dL_law_329 : decode cL_law 329 = .ok (.invokevirtual 34, 3) := by decide +kernel
theorem dL_law_332 : decode cL_law 332 = .ok (.if_icmp .eq 670, 3) := by decide +kernel
theorem dL_law_335 : decode cL_law 335 = .ok (.iconst 0, 1) := by decide +kernel
theorem dL_law_336 : decode cL_law 336 = .ok (.ireturn, 1) := by decide +kernel
theorem dL_law_337 : decode cL_law 337 = .ok (.aload_n 1, 1) := by decide +kernel
theorem dL_law_338 : decode cL_law 338 = .ok (.aload_n 0, 1) := by decide +kernel
theorem dL_law_339 : decode cL_law 339 = .ok (.iload_n 3, 1) := by decide +kernel
theorem dL_law_340 : decode cL_law 340 = .ok (.iconst 1, 1) := by decide +kernel
theorem dL_law_341 : decode cL_law 341 = .ok (.iadd, 1) := by decide +kernel
theorem dL_law_342 : decode cL_law 342 = .ok (.iaload, 1) := by decide +kernel
theorem dL_law_343 : decode cL_law 343 = .ok (.invokevirtual 35, 3) := by decide +kernel
theorem dL_law_346 : decode cL_law 346 = .ok (.aload_n 2, 1) := by decide +kernel
theorem dL_law_347 : decode cL_law 347 = .ok (.aload_n 0, 1) := by decide +kernel
theorem dL_law_348 : decode cL_law 348 = .ok (.iload_n 3, 1) := by decide +kernel
theorem dL_law_349 : decode cL_law 349 = .ok (.iconst 1, 1) := by decide +kernel
theorem dL_law_350 : decode cL_law 350 = .ok (.iadd, 1) := by decide +kernel
theorem dL_law_351 : decode cL_law 351 = .ok (.iaload, 1) := by decide +kernel
theorem dL_law_352 : decode cL_law 352 = .ok (.invokevirtual 39, 3) := by decide +kernel
theorem dL_law_355 : decode cL_law 355 = .ok (.if_icmp .eq 647, 3) := by decide +kernel
theorem dL_law_358 : decode cL_law 358 = .ok (.iconst 0, 1) := by decide +kernel
theorem dL_law_359 : decode cL_law 359 = .ok (.ireturn, 1) := by decide +kernel
theorem dL_law_360 : decode cL_law 360 = .ok (.aload_n 1, 1) := by decide +kernel
theorem dL_law_361 : decode cL_law 361 = .ok (.aload_n 0, 1) := by decide +kernel
theorem dL_law_362 : decode cL_law 362 = .ok (.iload_n 3, 1) := by decide +kernel
theorem dL_law_363 : decode cL_law 363 = .ok (.iconst 1, 1) := by decide +kernel
theorem dL_law_364 : decode cL_law 364 = .ok (.iadd, 1) := by decide +kernel
theorem dL_law_365 : decode cL_law 365 = .ok (.iaload, 1) := by decide +kernel
theorem dL_law_366 : decode cL_law 366 = .ok (.invokevirtual 40, 3) := by decide +kernel
theorem dL_law_369 : decode cL_law 369 = .ok (.aload_n 2, 1) := by decide +kernel
theorem dL_law_370 : decode cL_law 370 = .ok (.aload_n 0, 1) := by decide +kernel
theorem dL_law_371 : decode cL_law 371 = .ok (.iload_n 3, 1) := by decide +kernel
theorem dL_law_372 : decode cL_law 372 = .ok (.iconst 1, 1) := by decide +kernel
theorem dL_law_373 : decode cL_law 373 = .ok (.iadd, 1) := by decide +kernel
theorem dL_law_374 : decode cL_law 374 = .ok (.iaload, 1) := by decide +kernel
theorem dL_law_375 : decode cL_law 375 = .ok (.invokevirtual 43, 3) := by decide +kernel
theorem dL_law_378 : decode cL_law 378 = .ok (.if_icmp .eq 624, 3) := by decide +kernel
theorem dL_law_381 : decode cL_law 381 = .ok (.iconst 0, 1) := by decide +kernel
theorem dL_law_382 : decode cL_law 382 = .ok (.ireturn, 1) := by decide +kernel
theorem dL_law_383 : decode cL_law 383 = .ok (.aload_n 1, 1) := by decide +kernel
theorem dL_law_384 : decode cL_law 384 = .ok (.aload_n 0, 1) := by decide +kernel
theorem dL_law_385 : decode cL_law 385 = .ok (.iload_n 3, 1) := by decide +kernel
theorem dL_law_386 : decode cL_law 386 = .ok (.iconst 1, 1) := by decide +kernel
theorem dL_law_387 : decode cL_law 387 = .ok (.iadd, 1) := by decide +kernel
theorem dL_law_388 : decode cL_law 388 = .ok (.iaload, 1) := by decide +kernel
theorem dL_law_389 : decode cL_law 389 = .ok (.aload_n 0, 1) := by decide +kernel
theorem dL_law_390 : decode cL_law 390 = .ok (.iload_n 3, 1) := by decide +kernel
theorem dL_law_391 : decode cL_law 391 = .ok (.iconst 2, 1) := by decide +kernel
theorem dL_law_392 : decode cL_law 392 = .ok (.iadd, 1) := by decide +kernel
theorem dL_law_393 : decode cL_law 393 = .ok (.iaload, 1) := by decide +kernel
theorem dL_law_394 : decode cL_law 394 = .ok (.aload_n 0, 1) := by decide +kernel
theorem dL_law_395 : decode cL_law 395 = .ok (.iload_n 3, 1) := by decide +kernel
theorem dL_law_396 : decode cL_law 396 = .ok (.iconst 3, 1) := by decide +kernel
theorem dL_law_397 : decode cL_law 397 = .ok (.iadd, 1) := by decide +kernel
theorem dL_law_398 : decode cL_law 398 = .ok (.iaload, 1) := by decide +kernel
theorem dL_law_399 : decode cL_law 399 = .ok (.aload_n 0, 1) := by decide +kernel
theorem dL_law_400 : decode cL_law 400 = .ok (.iload_n 3, 1) := by decide +kernel
theorem dL_law_401 : decode cL_law 401 = .ok (.iconst 4, 1) := by decide +kernel
theorem dL_law_402 : decode cL_law 402 = .ok (.iadd, 1) := by decide +kernel
theorem dL_law_403 : decode cL_law 403 = .ok (.iaload, 1) := by decide +kernel
theorem dL_law_404 : decode cL_law 404 = .ok (.aload_n 0, 1) := by decide +kernel
theorem dL_law_405 : decode cL_law 405 = .ok (.iload_n 3, 1) := by decide +kernel
theorem dL_law_406 : decode cL_law 406 = .ok (.iconst 5, 1) := by decide +kernel
theorem dL_law_407 : decode cL_law 407 = .ok (.iadd, 1) := by decide +kernel
theorem dL_law_408 : decode cL_law 408 = .ok (.iaload, 1) := by decide +kernel
theorem dL_law_409 : decode cL_law 409 = .ok (.invokevirtual 44, 3) := by decide +kernel
theorem dL_law_412 : decode cL_law 412 = .ok (.aload_n 2, 1) := by decide +kernel
theorem dL_law_413 : decode cL_law 413 = .ok (.aload_n 0, 1) := by decide +kernel
theorem dL_law_414 : decode cL_law 414 = .ok (.iload_n 3, 1) := by decide +kernel
theorem dL_law_415 : decode cL_law 415 = .ok (.iconst 1, 1) := by decide +kernel
theorem dL_law_416 : decode cL_law 416 = .ok (.iadd, 1) := by decide +kernel
theorem dL_law_417 : decode cL_law 417 = .ok (.iaload, 1) := by decide +kernel
theorem dL_law_418 : decode cL_law 418 = .ok (.aload_n 0, 1) := by decide +kernel
theorem dL_law_419 : decode cL_law 419 = .ok (.iload_n 3, 1) := by decide +kernel
theorem dL_law_420 : decode cL_law 420 = .ok (.iconst 2, 1) := by decide +kernel
theorem dL_law_421 : decode cL_law 421 = .ok (.iadd, 1) := by decide +kernel
theorem dL_law_422 : decode cL_law 422 = .ok (.iaload, 1) := by decide +kernel
theorem dL_law_423 : decode cL_law 423 = .ok (.aload_n 0, 1) := by decide +kernel
theorem dL_law_424 : decode cL_law 424 = .ok (.iload_n 3, 1) := by decide +kernel
theorem dL_law_425 : decode cL_law 425 = .ok (.iconst 3, 1) := by decide +kernel
theorem dL_law_426 : decode cL_law 426 = .ok (.iadd, 1) := by decide +kernel
theorem dL_law_427 : decode cL_law 427 = .ok (.iaload, 1) := by decide +kernel
theorem dL_law_428 : decode cL_law 428 = .ok (.aload_n 0, 1) := by decide +kernel
theorem dL_law_429 : decode cL_law 429 = .ok (.iload_n 3, 1) := by decide +kernel
theorem dL_law_430 : decode cL_law 430 = .ok (.iconst 4, 1) := by decide +kernel
theorem dL_law_431 : decode cL_law 431 = .ok (.iadd, 1) := by decide +kernel
theorem dL_law_432 : decode cL_law 432 = .ok (.iaload, 1) := by decide +kernel
theorem dL_law_433 : decode cL_law 433 = .ok (.aload_n 0, 1) := by decide +kernel
theorem dL_law_434 : decode cL_law 434 = .ok (.iload_n 3, 1) := by decide +kernel
theorem dL_law_435 : decode cL_law 435 = .ok (.iconst 5, 1) := by decide +kernel
theorem dL_law_436 : decode cL_law 436 = .ok (.iadd, 1) := by decide +kernel
theorem dL_law_437 : decode cL_law 437 = .ok (.iaload, 1) := by decide +kernel
theorem dL_law_438 : decode cL_law 438 = .ok (.invokevirtual 48, 3) := by decide +kernel
theorem dL_law_441 : decode cL_law 441 = .ok (.if_icmp .eq 561, 3) := by decide +kernel
theorem dL_law_444 : decode cL_law 444 = .ok (.iconst 0, 1) := by decide +kernel
theorem dL_law_445 : decode cL_law 445 = .ok (.ireturn, 1) := by decide +kernel
theorem dL_law_446 : decode cL_law 446 = .ok (.aload_n 1, 1) := by decide +kernel
theorem dL_law_447 : decode cL_law 447 = .ok (.aload_n 0, 1) := by decide +kernel
theorem dL_law_448 : decode cL_law 448 = .ok (.iload_n 3, 1) := by decide +kernel
theorem dL_law_449 : decode cL_law 449 = .ok (.iconst 1, 1) := by decide +kernel
theorem dL_law_450 : decode cL_law 450 = .ok (.iadd, 1) := by decide +kernel
theorem dL_law_451 : decode cL_law 451 = .ok (.iaload, 1) := by decide +kernel
theorem dL_law_452 : decode cL_law 452 = .ok (.invokevirtual 49, 3) := by decide +kernel
theorem dL_law_455 : decode cL_law 455 = .ok (.aload_n 2, 1) := by decide +kernel
theorem dL_law_456 : decode cL_law 456 = .ok (.aload_n 0, 1) := by decide +kernel
theorem dL_law_457 : decode cL_law 457 = .ok (.iload_n 3, 1) := by decide +kernel
theorem dL_law_458 : decode cL_law 458 = .ok (.iconst 1, 1) := by decide +kernel
theorem dL_law_459 : decode cL_law 459 = .ok (.iadd, 1) := by decide +kernel
theorem dL_law_460 : decode cL_law 460 = .ok (.iaload, 1) := by decide +kernel
theorem dL_law_461 : decode cL_law 461 = .ok (.invokevirtual 52, 3) := by decide +kernel
theorem dL_law_464 : decode cL_law 464 = .ok (.if_icmp .eq 538, 3) := by decide +kernel
theorem dL_law_467 : decode cL_law 467 = .ok (.iconst 0, 1) := by decide +kernel
theorem dL_law_468 : decode cL_law 468 = .ok (.ireturn, 1) := by decide +kernel
theorem dL_law_469 : decode cL_law 469 = .ok (.aload_n 1, 1) := by decide +kernel
theorem dL_law_470 : decode cL_law 470 = .ok (.aload_n 0, 1) := by decide +kernel
theorem dL_law_471 : decode cL_law 471 = .ok (.iload_n 3, 1) := by decide +kernel
theorem dL_law_472 : decode cL_law 472 = .ok (.iconst 1, 1) := by decide +kernel
theorem dL_law_473 : decode cL_law 473 = .ok (.iadd, 1) := by decide +kernel
theorem dL_law_474 : decode cL_law 474 = .ok (.iaload, 1) := by decide +kernel
theorem dL_law_475 : decode cL_law 475 = .ok (.aload_n 0, 1) := by decide +kernel
theorem dL_law_476 : decode cL_law 476 = .ok (.iload_n 3, 1) := by decide +kernel
theorem dL_law_477 : decode cL_law 477 = .ok (.iconst 2, 1) := by decide +kernel
theorem dL_law_478 : decode cL_law 478 = .ok (.iadd, 1) := by decide +kernel
theorem dL_law_479 : decode cL_law 479 = .ok (.iaload, 1) := by decide +kernel
theorem dL_law_480 : decode cL_law 480 = .ok (.aload_n 0, 1) := by decide +kernel
theorem dL_law_481 : decode cL_law 481 = .ok (.iload_n 3, 1) := by decide +kernel
theorem dL_law_482 : decode cL_law 482 = .ok (.iconst 3, 1) := by decide +kernel
theorem dL_law_483 : decode cL_law 483 = .ok (.iadd, 1) := by decide +kernel
theorem dL_law_484 : decode cL_law 484 = .ok (.iaload, 1) := by decide +kernel
theorem dL_law_485 : decode cL_law 485 = .ok (.aload_n 0, 1) := by decide +kernel
theorem dL_law_486 : decode cL_law 486 = .ok (.iload_n 3, 1) := by decide +kernel
theorem dL_law_487 : decode cL_law 487 = .ok (.iconst 4, 1) := by decide +kernel
theorem dL_law_488 : decode cL_law 488 = .ok (.iadd, 1) := by decide +kernel
theorem dL_law_489 : decode cL_law 489 = .ok (.iaload, 1) := by decide +kernel
theorem dL_law_490 : decode cL_law 490 = .ok (.invokevirtual 53, 3) := by decide +kernel
theorem dL_law_493 : decode cL_law 493 = .ok (.aload_n 2, 1) := by decide +kernel
theorem dL_law_494 : decode cL_law 494 = .ok (.aload_n 0, 1) := by decide +kernel
theorem dL_law_495 : decode cL_law 495 = .ok (.iload_n 3, 1) := by decide +kernel
theorem dL_law_496 : decode cL_law 496 = .ok (.iconst 1, 1) := by decide +kernel
theorem dL_law_497 : decode cL_law 497 = .ok (.iadd, 1) := by decide +kernel
theorem dL_law_498 : decode cL_law 498 = .ok (.iaload, 1) := by decide +kernel
theorem dL_law_499 : decode cL_law 499 = .ok (.aload_n 0, 1) := by decide +kernel
theorem dL_law_500 : decode cL_law 500 = .ok (.iload_n 3, 1) := by decide +kernel
theorem dL_law_501 : decode cL_law 501 = .ok (.iconst 2, 1) := by decide +kernel
theorem dL_law_502 : decode cL_law 502 = .ok (.iadd, 1) := by decide +kernel
theorem dL_law_503 : decode cL_law 503 = .ok (.iaload, 1) := by decide +kernel
theorem dL_law_504 : decode cL_law 504 = .ok (.aload_n 0, 1) := by decide +kernel
theorem dL_law_505 : decode cL_law 505 = .ok (.iload_n 3, 1) := by decide +kernel
theorem dL_law_506 : decode cL_law 506 = .ok (.iconst 3, 1) := by decide +kernel
theorem dL_law_507 : decode cL_law 507 = .ok (.iadd, 1) := by decide +kernel
theorem dL_law_508 : decode cL_law 508 = .ok (.iaload, 1) := by decide +kernel
theorem dL_law_509 : decode cL_law 509 = .ok (.aload_n 0, 1) := by decide +kernel
theorem dL_law_510 : decode cL_law 510 = .ok (.iload_n 3, 1) := by decide +kernel
theorem dL_law_511 : decode cL_law 511 = .ok (.iconst 4, 1) := by decide +kernel
theorem dL_law_512 : decode cL_law 512 = .ok (.iadd, 1) := by decide +kernel
theorem dL_law_513 : decode cL_law 513 = .ok (.iaload, 1) := by decide +kernel
theorem dL_law_514 : decode cL_law 514 = .ok (.invokevirtual 56, 3) := by decide +kernel
theorem dL_law_517 : decode cL_law 517 = .ok (.if_icmp .eq 485, 3) := by decide +kernel
theorem dL_law_520 : decode cL_law 520 = .ok (.iconst 0, 1) := by decide +kernel
theorem dL_law_521 : decode cL_law 521 = .ok (.ireturn, 1) := by decide +kernel
theorem dL_law_522 : decode cL_law 522 = .ok (.aload_n 1, 1) := by decide +kernel
theorem dL_law_523 : decode cL_law 523 = .ok (.aload_n 0, 1) := by decide +kernel
theorem dL_law_524 : decode cL_law 524 = .ok (.iload_n 3, 1) := by decide +kernel
theorem dL_law_525 : decode cL_law 525 = .ok (.iconst 1, 1) := by decide +kernel
theorem dL_law_526 : decode cL_law 526 = .ok (.iadd, 1) := by decide +kernel
theorem dL_law_527 : decode cL_law 527 = .ok (.iaload, 1) := by decide +kernel
theorem dL_law_528 : decode cL_law 528 = .ok (.aload_n 0, 1) := by decide +kernel
theorem dL_law_529 : decode cL_law 529 = .ok (.iload_n 3, 1) := by decide +kernel
theorem dL_law_530 : decode cL_law 530 = .ok (.iconst 2, 1) := by decide +kernel
theorem dL_law_531 : decode cL_law 531 = .ok (.iadd, 1) := by decide +kernel
theorem dL_law_532 : decode cL_law 532 = .ok (.iaload, 1) := by decide +kernel
theorem dL_law_533 : decode cL_law 533 = .ok (.invokevirtual 57, 3) := by decide +kernel
theorem dL_law_536 : decode cL_law 536 = .ok (.aload_n 2, 1) := by decide +kernel
theorem dL_law_537 : decode cL_law 537 = .ok (.aload_n 0, 1) := by decide +kernel
theorem dL_law_538 : decode cL_law 538 = .ok (.iload_n 3, 1) := by decide +kernel
theorem dL_law_539 : decode cL_law 539 = .ok (.iconst 1, 1) := by decide +kernel
theorem dL_law_540 : decode cL_law 540 = .ok (.iadd, 1) := by decide +kernel
theorem dL_law_541 : decode cL_law 541 = .ok (.iaload, 1) := by decide +kernel
theorem dL_law_542 : decode cL_law 542 = .ok (.aload_n 0, 1) := by decide +kernel
theorem dL_law_543 : decode cL_law 543 = .ok (.iload_n 3, 1) := by decide +kernel
theorem dL_law_544 : decode cL_law 544 = .ok (.iconst 2, 1) := by decide +kernel
theorem dL_law_545 : decode cL_law 545 = .ok (.iadd, 1) := by decide +kernel
theorem dL_law_546 : decode cL_law 546 = .ok (.iaload, 1) := by decide +kernel
theorem dL_law_547 : decode cL_law 547 = .ok (.invokevirtual 60, 3) := by decide +kernel
theorem dL_law_550 : decode cL_law 550 = .ok (.if_icmp .eq 452, 3) := by decide +kernel
theorem dL_law_553 : decode cL_law 553 = .ok (.iconst 0, 1) := by decide +kernel
theorem dL_law_554 : decode cL_law 554 = .ok (.ireturn, 1) := by decide +kernel
theorem dL_law_555 : decode cL_law 555 = .ok (.aload_n 1, 1) := by decide +kernel
theorem dL_law_556 : decode cL_law 556 = .ok (.aload_n 0, 1) := by decide +kernel
theorem dL_law_557 : decode cL_law 557 = .ok (.iload_n 3, 1) := by decide +kernel
theorem dL_law_558 : decode cL_law 558 = .ok (.iconst 1, 1) := by decide +kernel
theorem dL_law_559 : decode cL_law 559 = .ok (.iadd, 1) := by decide +kernel
theorem dL_law_560 : decode cL_law 560 = .ok (.iaload, 1) := by decide +kernel
theorem dL_law_561 : decode cL_law 561 = .ok (.invokevirtual 61, 3) := by decide +kernel
theorem dL_law_564 : decode cL_law 564 = .ok (.aload_n 2, 1) := by decide +kernel
theorem dL_law_565 : decode cL_law 565 = .ok (.aload_n 0, 1) := by decide +kernel
theorem dL_law_566 : decode cL_law 566 = .ok (.iload_n 3, 1) := by decide +kernel
theorem dL_law_567 : decode cL_law 567 = .ok (.iconst 1, 1) := by decide +kernel
theorem dL_law_568 : decode cL_law 568 = .ok (.iadd, 1) := by decide +kernel
theorem dL_law_569 : decode cL_law 569 = .ok (.iaload, 1) := by decide +kernel
theorem dL_law_570 : decode cL_law 570 = .ok (.invokevirtual 64, 3) := by decide +kernel
theorem dL_law_573 : decode cL_law 573 = .ok (.if_icmp .eq 429, 3) := by decide +kernel
theorem dL_law_576 : decode cL_law 576 = .ok (.iconst 0, 1) := by decide +kernel
theorem dL_law_577 : decode cL_law 577 = .ok (.ireturn, 1) := by decide +kernel
theorem dL_law_578 : decode cL_law 578 = .ok (.aload_n 1, 1) := by decide +kernel
theorem dL_law_579 : decode cL_law 579 = .ok (.aload_n 0, 1) := by decide +kernel
theorem dL_law_580 : decode cL_law 580 = .ok (.iload_n 3, 1) := by decide +kernel
theorem dL_law_581 : decode cL_law 581 = .ok (.iconst 1, 1) := by decide +kernel
theorem dL_law_582 : decode cL_law 582 = .ok (.iadd, 1) := by decide +kernel
theorem dL_law_583 : decode cL_law 583 = .ok (.iaload, 1) := by decide +kernel
theorem dL_law_584 : decode cL_law 584 = .ok (.invokevirtual 65, 3) := by decide +kernel
theorem dL_law_587 : decode cL_law 587 = .ok (.aload_n 2, 1) := by decide +kernel
theorem dL_law_588 : decode cL_law 588 = .ok (.aload_n 0, 1) := by decide +kernel
theorem dL_law_589 : decode cL_law 589 = .ok (.iload_n 3, 1) := by decide +kernel
theorem dL_law_590 : decode cL_law 590 = .ok (.iconst 1, 1) := by decide +kernel
theorem dL_law_591 : decode cL_law 591 = .ok (.iadd, 1) := by decide +kernel
theorem dL_law_592 : decode cL_law 592 = .ok (.iaload, 1) := by decide +kernel
theorem dL_law_593 : decode cL_law 593 = .ok (.invokevirtual 68, 3) := by decide +kernel
theorem dL_law_596 : decode cL_law 596 = .ok (.if_icmp .eq 406, 3) := by decide +kernel
theorem dL_law_599 : decode cL_law 599 = .ok (.iconst 0, 1) := by decide +kernel
theorem dL_law_600 : decode cL_law 600 = .ok (.ireturn, 1) := by decide +kernel
theorem dL_law_601 : decode cL_law 601 = .ok (.aload_n 1, 1) := by decide +kernel
theorem dL_law_602 : decode cL_law 602 = .ok (.aload_n 0, 1) := by decide +kernel
theorem dL_law_603 : decode cL_law 603 = .ok (.iload_n 3, 1) := by decide +kernel
theorem dL_law_604 : decode cL_law 604 = .ok (.iconst 1, 1) := by decide +kernel
theorem dL_law_605 : decode cL_law 605 = .ok (.iadd, 1) := by decide +kernel
theorem dL_law_606 : decode cL_law 606 = .ok (.iaload, 1) := by decide +kernel
theorem dL_law_607 : decode cL_law 607 = .ok (.invokevirtual 69, 3) := by decide +kernel
theorem dL_law_610 : decode cL_law 610 = .ok (.aload_n 2, 1) := by decide +kernel
theorem dL_law_611 : decode cL_law 611 = .ok (.aload_n 0, 1) := by decide +kernel
theorem dL_law_612 : decode cL_law 612 = .ok (.iload_n 3, 1) := by decide +kernel
theorem dL_law_613 : decode cL_law 613 = .ok (.iconst 1, 1) := by decide +kernel
theorem dL_law_614 : decode cL_law 614 = .ok (.iadd, 1) := by decide +kernel
theorem dL_law_615 : decode cL_law 615 = .ok (.iaload, 1) := by decide +kernel
theorem dL_law_616 : decode cL_law 616 = .ok (.invokevirtual 72, 3) := by decide +kernel
theorem dL_law_619 : decode cL_law 619 = .ok (.if_icmp .eq 383, 3) := by decide +kernel
theorem dL_law_622 : decode cL_law 622 = .ok (.iconst 0, 1) := by decide +kernel
theorem dL_law_623 : decode cL_law 623 = .ok (.ireturn, 1) := by decide +kernel
theorem dL_law_624 : decode cL_law 624 = .ok (.aload_n 1, 1) := by decide +kernel
theorem dL_law_625 : decode cL_law 625 = .ok (.aload_n 0, 1) := by decide +kernel
theorem dL_law_626 : decode cL_law 626 = .ok (.iload_n 3, 1) := by decide +kernel
theorem dL_law_627 : decode cL_law 627 = .ok (.iconst 1, 1) := by decide +kernel
theorem dL_law_628 : decode cL_law 628 = .ok (.iadd, 1) := by decide +kernel
theorem dL_law_629 : decode cL_law 629 = .ok (.iaload, 1) := by decide +kernel
theorem dL_law_630 : decode cL_law 630 = .ok (.aload_n 0, 1) := by decide +kernel
theorem dL_law_631 : decode cL_law 631 = .ok (.iload_n 3, 1) := by decide +kernel
theorem dL_law_632 : decode cL_law 632 = .ok (.iconst 2, 1) := by decide +kernel
theorem dL_law_633 : decode cL_law 633 = .ok (.iadd, 1) := by decide +kernel
theorem dL_law_634 : decode cL_law 634 = .ok (.iaload, 1) := by decide +kernel
theorem dL_law_635 : decode cL_law 635 = .ok (.invokevirtual 73, 3) := by decide +kernel
theorem dL_law_638 : decode cL_law 638 = .ok (.aload_n 2, 1) := by decide +kernel
theorem dL_law_639 : decode cL_law 639 = .ok (.aload_n 0, 1) := by decide +kernel
theorem dL_law_640 : decode cL_law 640 = .ok (.iload_n 3, 1) := by decide +kernel
theorem dL_law_641 : decode cL_law 641 = .ok (.iconst 1, 1) := by decide +kernel
theorem dL_law_642 : decode cL_law 642 = .ok (.iadd, 1) := by decide +kernel
theorem dL_law_643 : decode cL_law 643 = .ok (.iaload, 1) := by decide +kernel
theorem dL_law_644 : decode cL_law 644 = .ok (.aload_n 0, 1) := by decide +kernel
theorem dL_law_645 : decode cL_law 645 = .ok (.iload_n 3, 1) := by decide +kernel
theorem dL_law_646 : decode cL_law 646 = .ok (.iconst 2, 1) := by decide +kernel
theorem dL_law_647 : decode cL_law 647 = .ok (.iadd, 1) := by decide +kernel
theorem dL_law_648 : decode cL_law 648 = .ok (.iaload, 1) := by decide +kernel
theorem dL_law_649 : decode cL_law 649 = .ok (.invokevirtual 77, 3) := by decide +kernel
theorem dL_law_652 : decode cL_law 652 = .ok (.lcmp, 1) := by decide +kernel
theorem dL_law_653 : decode cL_law 653 = .ok (.ifCond .eq 349, 3) := by decide +kernel
theorem dL_law_656 : decode cL_law 656 = .ok (.iconst 0, 1) := by decide +kernel
theorem dL_law_657 : decode cL_law 657 = .ok (.ireturn, 1) := by decide +kernel
theorem dL_law_658 : decode cL_law 658 = .ok (.aload_n 1, 1) := by decide +kernel
theorem dL_law_659 : decode cL_law 659 = .ok (.aload_n 0, 1) := by decide +kernel
theorem dL_law_660 : decode cL_law 660 = .ok (.iload_n 3, 1) := by decide +kernel
theorem dL_law_661 : decode cL_law 661 = .ok (.iconst 1, 1) := by decide +kernel
theorem dL_law_662 : decode cL_law 662 = .ok (.iadd, 1) := by decide +kernel
theorem dL_law_663 : decode cL_law 663 = .ok (.iaload, 1) := by decide +kernel
theorem dL_law_664 : decode cL_law 664 = .ok (.aload_n 0, 1) := by decide +kernel
theorem dL_law_665 : decode cL_law 665 = .ok (.iload_n 3, 1) := by decide +kernel
theorem dL_law_666 : decode cL_law 666 = .ok (.iconst 2, 1) := by decide +kernel
theorem dL_law_667 : decode cL_law 667 = .ok (.iadd, 1) := by decide +kernel
theorem dL_law_668 : decode cL_law 668 = .ok (.iaload, 1) := by decide +kernel
theorem dL_law_669 : decode cL_law 669 = .ok (.aload_n 0, 1) := by decide +kernel
theorem dL_law_670 : decode cL_law 670 = .ok (.iload_n 3, 1) := by decide +kernel
theorem dL_law_671 : decode cL_law 671 = .ok (.iconst 3, 1) := by decide +kernel
theorem dL_law_672 : decode cL_law 672 = .ok (.iadd, 1) := by decide +kernel
theorem dL_law_673 : decode cL_law 673 = .ok (.iaload, 1) := by decide +kernel
theorem dL_law_674 : decode cL_law 674 = .ok (.invokevirtual 78, 3) := by decide +kernel
theorem dL_law_677 : decode cL_law 677 = .ok (.aload_n 2, 1) := by decide +kernel
theorem dL_law_678 : decode cL_law 678 = .ok (.aload_n 0, 1) := by decide +kernel
theorem dL_law_679 : decode cL_law 679 = .ok (.iload_n 3, 1) := by decide +kernel
theorem dL_law_680 : decode cL_law 680 = .ok (.iconst 1, 1) := by decide +kernel
theorem dL_law_681 : decode cL_law 681 = .ok (.iadd, 1) := by decide +kernel
theorem dL_law_682 : decode cL_law 682 = .ok (.iaload, 1) := by decide +kernel
theorem dL_law_683 : decode cL_law 683 = .ok (.aload_n 0, 1) := by decide +kernel
theorem dL_law_684 : decode cL_law 684 = .ok (.iload_n 3, 1) := by decide +kernel
theorem dL_law_685 : decode cL_law 685 = .ok (.iconst 2, 1) := by decide +kernel
theorem dL_law_686 : decode cL_law 686 = .ok (.iadd, 1) := by decide +kernel
theorem dL_law_687 : decode cL_law 687 = .ok (.iaload, 1) := by decide +kernel
theorem dL_law_688 : decode cL_law 688 = .ok (.aload_n 0, 1) := by decide +kernel
theorem dL_law_689 : decode cL_law 689 = .ok (.iload_n 3, 1) := by decide +kernel
theorem dL_law_690 : decode cL_law 690 = .ok (.iconst 3, 1) := by decide +kernel
theorem dL_law_691 : decode cL_law 691 = .ok (.iadd, 1) := by decide +kernel
theorem dL_law_692 : decode cL_law 692 = .ok (.iaload, 1) := by decide +kernel
theorem dL_law_693 : decode cL_law 693 = .ok (.invokevirtual 82, 3) := by decide +kernel
theorem dL_law_696 : decode cL_law 696 = .ok (.if_icmp .eq 306, 3) := by decide +kernel
theorem dL_law_699 : decode cL_law 699 = .ok (.iconst 0, 1) := by decide +kernel
theorem dL_law_700 : decode cL_law 700 = .ok (.ireturn, 1) := by decide +kernel
theorem dL_law_701 : decode cL_law 701 = .ok (.aload_n 1, 1) := by decide +kernel
theorem dL_law_702 : decode cL_law 702 = .ok (.aload_n 0, 1) := by decide +kernel
theorem dL_law_703 : decode cL_law 703 = .ok (.iload_n 3, 1) := by decide +kernel
theorem dL_law_704 : decode cL_law 704 = .ok (.iconst 1, 1) := by decide +kernel
theorem dL_law_705 : decode cL_law 705 = .ok (.iadd, 1) := by decide +kernel
theorem dL_law_706 : decode cL_law 706 = .ok (.iaload, 1) := by decide +kernel
theorem dL_law_707 : decode cL_law 707 = .ok (.invokevirtual 83, 3) := by decide +kernel
theorem dL_law_710 : decode cL_law 710 = .ok (.aload_n 2, 1) := by decide +kernel
theorem dL_law_711 : decode cL_law 711 = .ok (.aload_n 0, 1) := by decide +kernel
theorem dL_law_712 : decode cL_law 712 = .ok (.iload_n 3, 1) := by decide +kernel
theorem dL_law_713 : decode cL_law 713 = .ok (.iconst 1, 1) := by decide +kernel
theorem dL_law_714 : decode cL_law 714 = .ok (.iadd, 1) := by decide +kernel
theorem dL_law_715 : decode cL_law 715 = .ok (.iaload, 1) := by decide +kernel
theorem dL_law_716 : decode cL_law 716 = .ok (.invokevirtual 86, 3) := by decide +kernel
theorem dL_law_719 : decode cL_law 719 = .ok (.if_icmp .eq 283, 3) := by decide +kernel
theorem dL_law_722 : decode cL_law 722 = .ok (.iconst 0, 1) := by decide +kernel
theorem dL_law_723 : decode cL_law 723 = .ok (.ireturn, 1) := by decide +kernel
theorem dL_law_724 : decode cL_law 724 = .ok (.aload_n 1, 1) := by decide +kernel
theorem dL_law_725 : decode cL_law 725 = .ok (.aload_n 0, 1) := by decide +kernel
theorem dL_law_726 : decode cL_law 726 = .ok (.iload_n 3, 1) := by decide +kernel
theorem dL_law_727 : decode cL_law 727 = .ok (.iconst 1, 1) := by decide +kernel
theorem dL_law_728 : decode cL_law 728 = .ok (.iadd, 1) := by decide +kernel
theorem dL_law_729 : decode cL_law 729 = .ok (.iaload, 1) := by decide +kernel
theorem dL_law_730 : decode cL_law 730 = .ok (.aload_n 0, 1) := by decide +kernel
theorem dL_law_731 : decode cL_law 731 = .ok (.iload_n 3, 1) := by decide +kernel
theorem dL_law_732 : decode cL_law 732 = .ok (.iconst 2, 1) := by decide +kernel
theorem dL_law_733 : decode cL_law 733 = .ok (.iadd, 1) := by decide +kernel
theorem dL_law_734 : decode cL_law 734 = .ok (.iaload, 1) := by decide +kernel
theorem dL_law_735 : decode cL_law 735 = .ok (.aload_n 0, 1) := by decide +kernel
theorem dL_law_736 : decode cL_law 736 = .ok (.iload_n 3, 1) := by decide +kernel
theorem dL_law_737 : decode cL_law 737 = .ok (.iconst 3, 1) := by decide +kernel
theorem dL_law_738 : decode cL_law 738 = .ok (.iadd, 1) := by decide +kernel
theorem dL_law_739 : decode cL_law 739 = .ok (.iaload, 1) := by decide +kernel
theorem dL_law_740 : decode cL_law 740 = .ok (.invokevirtual 87, 3) := by decide +kernel
theorem dL_law_743 : decode cL_law 743 = .ok (.aload_n 2, 1) := by decide +kernel
theorem dL_law_744 : decode cL_law 744 = .ok (.aload_n 0, 1) := by decide +kernel
theorem dL_law_745 : decode cL_law 745 = .ok (.iload_n 3, 1) := by decide +kernel
theorem dL_law_746 : decode cL_law 746 = .ok (.iconst 1, 1) := by decide +kernel
theorem dL_law_747 : decode cL_law 747 = .ok (.iadd, 1) := by decide +kernel
theorem dL_law_748 : decode cL_law 748 = .ok (.iaload, 1) := by decide +kernel
theorem dL_law_749 : decode cL_law 749 = .ok (.aload_n 0, 1) := by decide +kernel
theorem dL_law_750 : decode cL_law 750 = .ok (.iload_n 3, 1) := by decide +kernel
theorem dL_law_751 : decode cL_law 751 = .ok (.iconst 2, 1) := by decide +kernel
theorem dL_law_752 : decode cL_law 752 = .ok (.iadd, 1) := by decide +kernel
theorem dL_law_753 : decode cL_law 753 = .ok (.iaload, 1) := by decide +kernel
theorem dL_law_754 : decode cL_law 754 = .ok (.aload_n 0, 1) := by decide +kernel
theorem dL_law_755 : decode cL_law 755 = .ok (.iload_n 3, 1) := by decide +kernel
theorem dL_law_756 : decode cL_law 756 = .ok (.iconst 3, 1) := by decide +kernel
theorem dL_law_757 : decode cL_law 757 = .ok (.iadd, 1) := by decide +kernel
theorem dL_law_758 : decode cL_law 758 = .ok (.iaload, 1) := by decide +kernel
theorem dL_law_759 : decode cL_law 759 = .ok (.invokevirtual 90, 3) := by decide +kernel
theorem dL_law_762 : decode cL_law 762 = .ok (.if_icmp .eq 240, 3) := by decide +kernel
theorem dL_law_765 : decode cL_law 765 = .ok (.iconst 0, 1) := by decide +kernel
theorem dL_law_766 : decode cL_law 766 = .ok (.ireturn, 1) := by decide +kernel
theorem dL_law_767 : decode cL_law 767 = .ok (.aload_n 1, 1) := by decide +kernel
theorem dL_law_768 : decode cL_law 768 = .ok (.aload_n 0, 1) := by decide +kernel
theorem dL_law_769 : decode cL_law 769 = .ok (.iload_n 3, 1) := by decide +kernel
theorem dL_law_770 : decode cL_law 770 = .ok (.iconst 1, 1) := by decide +kernel
theorem dL_law_771 : decode cL_law 771 = .ok (.iadd, 1) := by decide +kernel
theorem dL_law_772 : decode cL_law 772 = .ok (.iaload, 1) := by decide +kernel
theorem dL_law_773 : decode cL_law 773 = .ok (.aload_n 0, 1) := by decide +kernel
theorem dL_law_774 : decode cL_law 774 = .ok (.iload_n 3, 1) := by decide +kernel
theorem dL_law_775 : decode cL_law 775 = .ok (.iconst 2, 1) := by decide +kernel
theorem dL_law_776 : decode cL_law 776 = .ok (.iadd, 1) := by decide +kernel
theorem dL_law_777 : decode cL_law 777 = .ok (.iaload, 1) := by decide +kernel
theorem dL_law_778 : decode cL_law 778 = .ok (.aload_n 0, 1) := by decide +kernel
theorem dL_law_779 : decode cL_law 779 = .ok (.iload_n 3, 1) := by decide +kernel
theorem dL_law_780 : decode cL_law 780 = .ok (.iconst 3, 1) := by decide +kernel
theorem dL_law_781 : decode cL_law 781 = .ok (.iadd, 1) := by decide +kernel
theorem dL_law_782 : decode cL_law 782 = .ok (.iaload, 1) := by decide +kernel
theorem dL_law_783 : decode cL_law 783 = .ok (.invokevirtual 91, 3) := by decide +kernel
theorem dL_law_786 : decode cL_law 786 = .ok (.aload_n 2, 1) := by decide +kernel
theorem dL_law_787 : decode cL_law 787 = .ok (.aload_n 0, 1) := by decide +kernel
theorem dL_law_788 : decode cL_law 788 = .ok (.iload_n 3, 1) := by decide +kernel
theorem dL_law_789 : decode cL_law 789 = .ok (.iconst 1, 1) := by decide +kernel
theorem dL_law_790 : decode cL_law 790 = .ok (.iadd, 1) := by decide +kernel
theorem dL_law_791 : decode cL_law 791 = .ok (.iaload, 1) := by decide +kernel
theorem dL_law_792 : decode cL_law 792 = .ok (.aload_n 0, 1) := by decide +kernel
theorem dL_law_793 : decode cL_law 793 = .ok (.iload_n 3, 1) := by decide +kernel
theorem dL_law_794 : decode cL_law 794 = .ok (.iconst 2, 1) := by decide +kernel
theorem dL_law_795 : decode cL_law 795 = .ok (.iadd, 1) := by decide +kernel
theorem dL_law_796 : decode cL_law 796 = .ok (.iaload, 1) := by decide +kernel
theorem dL_law_797 : decode cL_law 797 = .ok (.aload_n 0, 1) := by decide +kernel
theorem dL_law_798 : decode cL_law 798 = .ok (.iload_n 3, 1) := by decide +kernel
theorem dL_law_799 : decode cL_law 799 = .ok (.iconst 3, 1) := by decide +kernel
theorem dL_law_800 : decode cL_law 800 = .ok (.iadd, 1) := by decide +kernel
theorem dL_law_801 : decode cL_law 801 = .ok (.iaload, 1) := by decide +kernel
theorem dL_law_802 : decode cL_law 802 = .ok (.invokevirtual 95, 3) := by decide +kernel
theorem dL_law_805 : decode cL_law 805 = .ok (.lcmp, 1) := by decide +kernel
theorem dL_law_806 : decode cL_law 806 = .ok (.ifCond .eq 196, 3) := by decide +kernel
theorem dL_law_809 : decode cL_law 809 = .ok (.iconst 0, 1) := by decide +kernel
theorem dL_law_810 : decode cL_law 810 = .ok (.ireturn, 1) := by decide +kernel
theorem dL_law_811 : decode cL_law 811 = .ok (.aload_n 1, 1) := by decide +kernel
theorem dL_law_812 : decode cL_law 812 = .ok (.aload_n 0, 1) := by decide +kernel
theorem dL_law_813 : decode cL_law 813 = .ok (.iload_n 3, 1) := by decide +kernel
theorem dL_law_814 : decode cL_law 814 = .ok (.iconst 1, 1) := by decide +kernel
theorem dL_law_815 : decode cL_law 815 = .ok (.iadd, 1) := by decide +kernel
theorem dL_law_816 : decode cL_law 816 = .ok (.iaload, 1) := by decide +kernel
theorem dL_law_817 : decode cL_law 817 = .ok (.aload_n 0, 1) := by decide +kernel
theorem dL_law_818 : decode cL_law 818 = .ok (.iload_n 3, 1) := by decide +kernel
theorem dL_law_819 : decode cL_law 819 = .ok (.iconst 2, 1) := by decide +kernel
theorem dL_law_820 : decode cL_law 820 = .ok (.iadd, 1) := by decide +kernel
theorem dL_law_821 : decode cL_law 821 = .ok (.iaload, 1) := by decide +kernel
theorem dL_law_822 : decode cL_law 822 = .ok (.aload_n 0, 1) := by decide +kernel
theorem dL_law_823 : decode cL_law 823 = .ok (.iload_n 3, 1) := by decide +kernel
theorem dL_law_824 : decode cL_law 824 = .ok (.iconst 3, 1) := by decide +kernel
theorem dL_law_825 : decode cL_law 825 = .ok (.iadd, 1) := by decide +kernel
theorem dL_law_826 : decode cL_law 826 = .ok (.iaload, 1) := by decide +kernel
theorem dL_law_827 : decode cL_law 827 = .ok (.aload_n 0, 1) := by decide +kernel
theorem dL_law_828 : decode cL_law 828 = .ok (.iload_n 3, 1) := by decide +kernel
theorem dL_law_829 : decode cL_law 829 = .ok (.iconst 4, 1) := by decide +kernel
theorem dL_law_830 : decode cL_law 830 = .ok (.iadd, 1) := by decide +kernel
theorem dL_law_831 : decode cL_law 831 = .ok (.iaload, 1) := by decide +kernel
theorem dL_law_832 : decode cL_law 832 = .ok (.aload_n 0, 1) := by decide +kernel
theorem dL_law_833 : decode cL_law 833 = .ok (.iload_n 3, 1) := by decide +kernel
theorem dL_law_834 : decode cL_law 834 = .ok (.iconst 5, 1) := by decide +kernel
theorem dL_law_835 : decode cL_law 835 = .ok (.iadd, 1) := by decide +kernel
theorem dL_law_836 : decode cL_law 836 = .ok (.iaload, 1) := by decide +kernel
theorem dL_law_837 : decode cL_law 837 = .ok (.invokevirtual 96, 3) := by decide +kernel
theorem dL_law_840 : decode cL_law 840 = .ok (.aload_n 2, 1) := by decide +kernel
theorem dL_law_841 : decode cL_law 841 = .ok (.aload_n 0, 1) := by decide +kernel
theorem dL_law_842 : decode cL_law 842 = .ok (.iload_n 3, 1) := by decide +kernel
theorem dL_law_843 : decode cL_law 843 = .ok (.iconst 1, 1) := by decide +kernel
theorem dL_law_844 : decode cL_law 844 = .ok (.iadd, 1) := by decide +kernel
theorem dL_law_845 : decode cL_law 845 = .ok (.iaload, 1) := by decide +kernel
theorem dL_law_846 : decode cL_law 846 = .ok (.aload_n 0, 1) := by decide +kernel
theorem dL_law_847 : decode cL_law 847 = .ok (.iload_n 3, 1) := by decide +kernel
theorem dL_law_848 : decode cL_law 848 = .ok (.iconst 2, 1) := by decide +kernel
theorem dL_law_849 : decode cL_law 849 = .ok (.iadd, 1) := by decide +kernel
theorem dL_law_850 : decode cL_law 850 = .ok (.iaload, 1) := by decide +kernel
theorem dL_law_851 : decode cL_law 851 = .ok (.aload_n 0, 1) := by decide +kernel
theorem dL_law_852 : decode cL_law 852 = .ok (.iload_n 3, 1) := by decide +kernel
theorem dL_law_853 : decode cL_law 853 = .ok (.iconst 3, 1) := by decide +kernel
theorem dL_law_854 : decode cL_law 854 = .ok (.iadd, 1) := by decide +kernel
theorem dL_law_855 : decode cL_law 855 = .ok (.iaload, 1) := by decide +kernel
theorem dL_law_856 : decode cL_law 856 = .ok (.aload_n 0, 1) := by decide +kernel
theorem dL_law_857 : decode cL_law 857 = .ok (.iload_n 3, 1) := by decide +kernel
theorem dL_law_858 : decode cL_law 858 = .ok (.iconst 4, 1) := by decide +kernel
theorem dL_law_859 : decode cL_law 859 = .ok (.iadd, 1) := by decide +kernel
theorem dL_law_860 : decode cL_law 860 = .ok (.iaload, 1) := by decide +kernel
theorem dL_law_861 : decode cL_law 861 = .ok (.aload_n 0, 1) := by decide +kernel
theorem dL_law_862 : decode cL_law 862 = .ok (.iload_n 3, 1) := by decide +kernel
theorem dL_law_863 : decode cL_law 863 = .ok (.iconst 5, 1) := by decide +kernel
theorem dL_law_864 : decode cL_law 864 = .ok (.iadd, 1) := by decide +kernel
theorem dL_law_865 : decode cL_law 865 = .ok (.iaload, 1) := by decide +kernel
theorem dL_law_866 : decode cL_law 866 = .ok (.invokevirtual 99, 3) := by decide +kernel
theorem dL_law_869 : decode cL_law 869 = .ok (.if_icmp .eq 133, 3) := by decide +kernel
theorem dL_law_872 : decode cL_law 872 = .ok (.iconst 0, 1) := by decide +kernel
theorem dL_law_873 : decode cL_law 873 = .ok (.ireturn, 1) := by decide +kernel
theorem dL_law_874 : decode cL_law 874 = .ok (.aload_n 1, 1) := by decide +kernel
theorem dL_law_875 : decode cL_law 875 = .ok (.aload_n 0, 1) := by decide +kernel
theorem dL_law_876 : decode cL_law 876 = .ok (.iload_n 3, 1) := by decide +kernel
theorem dL_law_877 : decode cL_law 877 = .ok (.iconst 1, 1) := by decide +kernel
theorem dL_law_878 : decode cL_law 878 = .ok (.iadd, 1) := by decide +kernel
theorem dL_law_879 : decode cL_law 879 = .ok (.iaload, 1) := by decide +kernel
theorem dL_law_880 : decode cL_law 880 = .ok (.invokevirtual 100, 3) := by decide +kernel
theorem dL_law_883 : decode cL_law 883 = .ok (.aload_n 2, 1) := by decide +kernel
theorem dL_law_884 : decode cL_law 884 = .ok (.aload_n 0, 1) := by decide +kernel
theorem dL_law_885 : decode cL_law 885 = .ok (.iload_n 3, 1) := by decide +kernel
theorem dL_law_886 : decode cL_law 886 = .ok (.iconst 1, 1) := by decide +kernel
theorem dL_law_887 : decode cL_law 887 = .ok (.iadd, 1) := by decide +kernel
theorem dL_law_888 : decode cL_law 888 = .ok (.iaload, 1) := by decide +kernel
theorem dL_law_889 : decode cL_law 889 = .ok (.invokevirtual 103, 3) := by decide +kernel
theorem dL_law_892 : decode cL_law 892 = .ok (.if_icmp .eq 110, 3) := by decide +kernel
theorem dL_law_895 : decode cL_law 895 = .ok (.iconst 0, 1) := by decide +kernel
theorem dL_law_896 : decode cL_law 896 = .ok (.ireturn, 1) := by decide +kernel
theorem dL_law_897 : decode cL_law 897 = .ok (.aload_n 1, 1) := by decide +kernel
theorem dL_law_898 : decode cL_law 898 = .ok (.aload_n 0, 1) := by decide +kernel
theorem dL_law_899 : decode cL_law 899 = .ok (.iload_n 3, 1) := by decide +kernel
theorem dL_law_900 : decode cL_law 900 = .ok (.iconst 1, 1) := by decide +kernel
theorem dL_law_901 : decode cL_law 901 = .ok (.iadd, 1) := by decide +kernel
theorem dL_law_902 : decode cL_law 902 = .ok (.iaload, 1) := by decide +kernel
theorem dL_law_903 : decode cL_law 903 = .ok (.invokevirtual 104, 3) := by decide +kernel
theorem dL_law_906 : decode cL_law 906 = .ok (.aload_n 2, 1) := by decide +kernel
theorem dL_law_907 : decode cL_law 907 = .ok (.aload_n 0, 1) := by decide +kernel
theorem dL_law_908 : decode cL_law 908 = .ok (.iload_n 3, 1) := by decide +kernel
theorem dL_law_909 : decode cL_law 909 = .ok (.iconst 1, 1) := by decide +kernel
theorem dL_law_910 : decode cL_law 910 = .ok (.iadd, 1) := by decide +kernel
theorem dL_law_911 : decode cL_law 911 = .ok (.iaload, 1) := by decide +kernel
theorem dL_law_912 : decode cL_law 912 = .ok (.invokevirtual 107, 3) := by decide +kernel
theorem dL_law_915 : decode cL_law 915 = .ok (.if_icmp .eq 87, 3) := by decide +kernel
theorem dL_law_918 : decode cL_law 918 = .ok (.iconst 0, 1) := by decide +kernel
theorem dL_law_919 : decode cL_law 919 = .ok (.ireturn, 1) := by decide +kernel
theorem dL_law_920 : decode cL_law 920 = .ok (.aload_n 1, 1) := by decide +kernel
theorem dL_law_921 : decode cL_law 921 = .ok (.aload_n 0, 1) := by decide +kernel
theorem dL_law_922 : decode cL_law 922 = .ok (.iload_n 3, 1) := by decide +kernel
theorem dL_law_923 : decode cL_law 923 = .ok (.iconst 1, 1) := by decide +kernel
theorem dL_law_924 : decode cL_law 924 = .ok (.iadd, 1) := by decide +kernel
theorem dL_law_925 : decode cL_law 925 = .ok (.iaload, 1) := by decide +kernel
theorem dL_law_926 : decode cL_law 926 = .ok (.aload_n 0, 1) := by decide +kernel
theorem dL_law_927 : decode cL_law 927 = .ok (.iload_n 3, 1) := by decide +kernel
theorem dL_law_928 : decode cL_law 928 = .ok (.iconst 2, 1) := by decide +kernel
theorem dL_law_929 : decode cL_law 929 = .ok (.iadd, 1) := by decide +kernel
theorem dL_law_930 : decode cL_law 930 = .ok (.iaload, 1) := by decide +kernel
theorem dL_law_931 : decode cL_law 931 = .ok (.invokevirtual 108, 3) := by decide +kernel
theorem dL_law_934 : decode cL_law 934 = .ok (.aload_n 2, 1) := by decide +kernel
theorem dL_law_935 : decode cL_law 935 = .ok (.aload_n 0, 1) := by decide +kernel
theorem dL_law_936 : decode cL_law 936 = .ok (.iload_n 3, 1) := by decide +kernel
theorem dL_law_937 : decode cL_law 937 = .ok (.iconst 1, 1) := by decide +kernel
theorem dL_law_938 : decode cL_law 938 = .ok (.iadd, 1) := by decide +kernel
theorem dL_law_939 : decode cL_law 939 = .ok (.iaload, 1) := by decide +kernel
theorem dL_law_940 : decode cL_law 940 = .ok (.aload_n 0, 1) := by decide +kernel
theorem dL_law_941 : decode cL_law 941 = .ok (.iload_n 3, 1) := by decide +kernel
theorem dL_law_942 : decode cL_law 942 = .ok (.iconst 2, 1) := by decide +kernel
theorem dL_law_943 : decode cL_law 943 = .ok (.iadd, 1) := by decide +kernel
theorem dL_law_944 : decode cL_law 944 = .ok (.iaload, 1) := by decide +kernel
theorem dL_law_945 : decode cL_law 945 = .ok (.invokevirtual 111, 3) := by decide +kernel
theorem dL_law_948 : decode cL_law 948 = .ok (.if_icmp .eq 54, 3) := by decide +kernel
theorem dL_law_951 : decode cL_law 951 = .ok (.iconst 0, 1) := by decide +kernel
theorem dL_law_952 : decode cL_law 952 = .ok (.ireturn, 1) := by decide +kernel
theorem dL_law_953 : decode cL_law 953 = .ok (.aload_n 1, 1) := by decide +kernel
theorem dL_law_954 : decode cL_law 954 = .ok (.invokevirtual 112, 3) := by decide +kernel
theorem dL_law_957 : decode cL_law 957 = .ok (.aload_n 2, 1) := by decide +kernel
theorem dL_law_958 : decode cL_law 958 = .ok (.invokevirtual 116, 3) := by decide +kernel
theorem dL_law_961 : decode cL_law 961 = .ok (.if_icmp .eq 41, 3) := by decide +kernel
theorem dL_law_964 : decode cL_law 964 = .ok (.iconst 0, 1) := by decide +kernel
theorem dL_law_965 : decode cL_law 965 = .ok (.ireturn, 1) := by decide +kernel
theorem dL_law_966 : decode cL_law 966 = .ok (.aload_n 1, 1) := by decide +kernel
theorem dL_law_967 : decode cL_law 967 = .ok (.invokevirtual 117, 3) := by decide +kernel
theorem dL_law_970 : decode cL_law 970 = .ok (.aload_n 2, 1) := by decide +kernel
theorem dL_law_971 : decode cL_law 971 = .ok (.invokevirtual 120, 3) := by decide +kernel
theorem dL_law_974 : decode cL_law 974 = .ok (.if_icmp .eq 28, 3) := by decide +kernel
theorem dL_law_977 : decode cL_law 977 = .ok (.iconst 0, 1) := by decide +kernel
theorem dL_law_978 : decode cL_law 978 = .ok (.ireturn, 1) := by decide +kernel
theorem dL_law_979 : decode cL_law 979 = .ok (.aload_n 1, 1) := by decide +kernel
theorem dL_law_980 : decode cL_law 980 = .ok (.aload_n 0, 1) := by decide +kernel
theorem dL_law_981 : decode cL_law 981 = .ok (.iload_n 3, 1) := by decide +kernel
theorem dL_law_982 : decode cL_law 982 = .ok (.iconst 1, 1) := by decide +kernel
theorem dL_law_983 : decode cL_law 983 = .ok (.iadd, 1) := by decide +kernel
theorem dL_law_984 : decode cL_law 984 = .ok (.iaload, 1) := by decide +kernel
theorem dL_law_985 : decode cL_law 985 = .ok (.invokevirtual 121, 3) := by decide +kernel
theorem dL_law_988 : decode cL_law 988 = .ok (.aload_n 2, 1) := by decide +kernel
theorem dL_law_989 : decode cL_law 989 = .ok (.aload_n 0, 1) := by decide +kernel
theorem dL_law_990 : decode cL_law 990 = .ok (.iload_n 3, 1) := by decide +kernel
theorem dL_law_991 : decode cL_law 991 = .ok (.iconst 1, 1) := by decide +kernel
theorem dL_law_992 : decode cL_law 992 = .ok (.iadd, 1) := by decide +kernel
theorem dL_law_993 : decode cL_law 993 = .ok (.iaload, 1) := by decide +kernel
theorem dL_law_994 : decode cL_law 994 = .ok (.invokevirtual 124, 3) := by decide +kernel
theorem dL_law_997 : decode cL_law 997 = .ok (.if_icmp .eq 5, 3) := by decide +kernel
theorem dL_law_1000 : decode cL_law 1000 = .ok (.iconst 0, 1) := by decide +kernel
theorem dL_law_1001 : decode cL_law 1001 = .ok (.ireturn, 1) := by decide +kernel
theorem dL_law_1002 : decode cL_law 1002 = .ok (.iinc 3 6, 3) := by decide +kernel
theorem dL_law_1005 : decode cL_law 1005 = .ok (.goto (-987), 3) := by decide +kernel
theorem dL_law_1008 : decode cL_law 1008 = .ok (.iconst 1, 1) := by decide +kernel
theorem dL_law_1009 : decode cL_law 1009 = .ok (.ireturn, 1) := by decide +kernel
end
section
/-- the tables' words that a call keeps -/
def gWd : List Cond := lw_tbl.filter goodWord
theorem gw_at {w : Cond} (i : Nat) (h : lw_tbl[i]? = some w) (hg : goodWord w = true) : w ∈ gWd := List.mem_filter.mpr ⟨List.mem_of_getElem? h, hg⟩
/-! THE JUDGEMENT G: the whole world of both objects as one flat memory of ints (object, place), its shape fixed -/
abbrev Mm : Type := Nat → Nat → Int32
abbrev gT : Type := va_G × (Nat → Nat) × (ClassId × ClassId × ClassId) × Nat
abbrev gSh : Type := (Nat × List (Option Nat)) ⊕ (Nat ⊕ (Nat × List Nat))
/-- a Plan and its rows from b on -/
def sPl (b : Nat) : List gSh := [.inl (0, [none, some (b + 1), some (b + 2), some (b + 3), some (b + 4), some (b + 5), some (b + 8), some (b + 11), some (b + 12), some (b + 13), none, none]), .inr (.inl 6), .inr (.inl 6), .inr (.inl 6), .inr (.inl 6), .inr (.inr (1, [b + 6, b + 7])), .inr (.inl 6), .inr (.inl 6), .inr (.inr (1, [b + 9, b + 10])), .inr (.inl 6), .inr (.inl 6), .inr (.inl 6), .inr (.inl 6), .inr (.inl 6)]
def sShp (b : Nat) : List gSh := [.inl (2, [none, none, none, some (b + 1)]), .inr (.inl 60)]
def sTb : List gSh := [.inl (3, [some 1, some 15, some 29, some 45, some 54, some 55, some 56, none, none, none])] ++ sPl 1 ++ sPl 15 ++ [.inl (1, [some 30, some 44, none, none, none])] ++ sPl 30 ++ [.inr (.inl 60), .inr (.inr (0, [46, 48, 50, 52]))] ++ sShp 46 ++ sShp 48 ++ sShp 50 ++ sShp 52 ++ [.inr (.inl 6), .inr (.inl 8), .inr (.inl 8),
  .inl (4, [none, none, some 58, some 59, some 60, none, none, some 61, some 62, some 63, some 64, some 65, none, none, some 66, some 67, some 68, some 69, some 70, some 71, some 72, some 73, none, none, some 74, some 75, some 76, some 77, none, none, none, none, some 78, some 79]),
  .inr (.inl 4), .inr (.inl 4), .inr (.inl 240), .inr (.inl 6), .inr (.inl 6), .inr (.inl 6), .inr (.inl 6), .inr (.inl 12), .inr (.inl 6), .inr (.inl 6), .inr (.inl 6), .inr (.inl 6), .inr (.inl 12), .inr (.inl 6), .inr (.inl 6), .inr (.inl 6), .inr (.inl 6), .inr (.inl 24), .inr (.inl 6), .inr (.inl 6), .inr (.inl 8), .inr (.inl 8)]
theorem sTb_len : sTb.length = 80 := by decide +kernel
def gFd (al : Nat → Nat) (r : Nat → Int32) (j : Nat) (f : Option Nat) : Value := match f with
  | none => .int (r j)
  | some t => .ref (al t)
def gX (E : gT) (r : Nat → Int32) (x : gSh) : va_E := match x with
  | .inl (ci, fs) => .inr (ci, fs.mapIdx (gFd E.2.1 r))
  | .inr (.inl n) => .inl (E.2.2.1.1, n, .inl r)
  | .inr (.inr (z, ts)) => .inl (if z = 0 then E.2.2.1.2.1 else E.2.2.1.2.2, ts.length, .inr (.inr (.inr (.inr (fun i => (ts[i]?).map E.2.1)))))
def gW (E : gT) (m : Mm) : va_W := (List.range 80).map (fun k => (E.2.1 k, gX E (m k) (sTb.getD k (.inr (.inl 0)))))
def gY (E : gT) : List (ClassId × FieldType) := [(E.2.2.1.1, .int), (E.2.2.1.2.1, .object RX2), (E.2.2.1.2.2, .array .int)]
def gA (E : gT) (sz : Nat) : Nat → Prop := fun q => (∃ k, k < 80 ∧ q = E.2.1 k) ∨ sz ≤ q
theorem sTb_lt {k : Nat} {x : gSh} (h : sTb[k]? = some x) : k < 80 := by
  have := (List.getElem?_eq_some_iff.mp h).1
  rw [sTb_len] at this
  exact this
theorem gW_get {E : gT} {m : Mm} {k : Nat} {x : gSh} (h : sTb[k]? = some x) : (gW E m)[k]? = some (E.2.1 k, gX E (m k) x) := by
  have hk := sTb_lt h
  have hd : sTb.getD k (.inr (.inl 0)) = x := by rw [List.getD_eq_getElem?_getD, h]; rfl
  unfold gW
  rw [List.getElem?_map, List.getElem?_range hk]
  simp only [Option.map_some, hd]
theorem gW_out {E : gT} {m : Mm} {k : Nat} (h : ¬ k < 80) : (gW E m)[k]? = none := by
  unfold gW
  rw [List.getElem?_map, List.getElem?_eq_none (by rw [List.length_range]; omega)]
  rfl
theorem gW_in {E : gT} {m : Mm} {k : Nat} {q : Nat × va_E} (h : (gW E m)[k]? = some q) : k < 80 ∧ q.1 = E.2.1 k := by
  by_cases hk : k < 80
  · unfold gW at h
    rw [List.getElem?_map, List.getElem?_range hk] at h
    cases h
    exact ⟨hk, rfl⟩
  · rw [gW_out hk] at h
    cases h
theorem gW_set {E : gT} {m m' : Mm} {k : Nat} {x : gSh} {w : va_E} (h : sTb[k]? = some x) (h1 : gX E (m' k) x = w) (h2 : ∀ j, j ≠ k → m' j = m j) : (gW E m).set k (E.2.1 k, w) = gW E m' := by
  apply List.ext_getElem?
  intro j
  by_cases hj : j = k
  · subst hj
    rw [gW_get h, h1, List.getElem?_set_self]
    have : (gW E m).length = 80 := by unfold gW; rw [List.length_map, List.length_range]
    rw [this]
    exact sTb_lt h
  · rw [List.getElem?_set_ne (fun e => hj e.symm)]
    unfold gW
    rw [List.getElem?_map, List.getElem?_map]
    by_cases hl : j < 80
    · rw [List.getElem?_range hl]
      simp only [Option.map_some, h2 j hj]
    · rw [List.getElem?_eq_none (by rw [List.length_range]; omega)]
      rfl
/-- one place written -/
def s2 (m : Mm) (k j : Nat) (v : Int32) : Mm := fun a => if a = k then upd (m k) j v else m a
/-- one row written -/
def sR (m : Mm) (k : Nat) (r : Nat → Int32) : Mm := fun a => if a = k then r else m a
theorem s2_at (m : Mm) (k j : Nat) (v : Int32) : s2 m k j v k = upd (m k) j v := if_pos rfl
theorem s2_row {m : Mm} {k j a : Nat} {v : Int32} (h : a ≠ k) : s2 m k j v a = m a := if_neg h
theorem sR_at (m : Mm) (k : Nat) (r : Nat → Int32) : sR m k r k = r := if_pos rfl
theorem sR_row {m : Mm} {k a : Nat} {r : Nat → Int32} (h : a ≠ k) : sR m k r a = m a := if_neg h
theorem gFd_set (al : Nat → Nat) (r : Nat → Int32) (fs : List (Option Nat)) {j : Nat} (v : Int32) (h : fs[j]? = some none) : (fs.mapIdx (gFd al r)).set j (.int v) = fs.mapIdx (gFd al (upd r j v)) := by
  apply List.ext_getElem?
  intro i
  by_cases hi : i = j
  · subst hi
    have hl : i < fs.length := (List.getElem?_eq_some_iff.mp h).1
    rw [List.getElem?_set_self (by rw [List.length_mapIdx]; exact hl), List.getElem?_mapIdx, h]
    simp [gFd, upd]
  · rw [List.getElem?_set_ne (fun e => hi e.symm), List.getElem?_mapIdx, List.getElem?_mapIdx]
    cases fs[i]? with
    | none => rfl
    | some f =>
      cases f with
      | none => simp [gFd, upd, hi]
      | some t => rfl
/-- the orders' counts, the class's own static row -/
def hmo (j : Nat) : Int32 := ([1, 1, 2, 6, 24, 120, 720] : List Int32).getD j 0
def gZ (E : gT) (sz : Nat) (U : State) : Prop := va_Z "AreaOrders" "HOW_MANY_ORDERS" "[I" (.ref E.2.2.2) (gA E sz) U U.heap ∧ va_T .int E.2.2.2 7 (fun j => .int (hmo j)) (gA E sz) U U.heap
def gQ (E : gT) (K : Option Value → Mm → Prop) (sz : Nat) : Array Value → State → Outcome → State → Prop := fun _ st oc t => (∃ (v : Option Value) (u : Mm), oc = .returned v ∧ K v u ∧ va_P E.1 vwCl (gW E u) t.heap ∧ va_K E.1 vwCl (gY E) t ∧ va_D (gA E sz) (gW E u)) ∧ va_F (gA E sz) st t
def gV (ls : Array Slot) (nL : Nat) (lv : List (Option Value)) : Prop := ls.size = nL ∧ lv_wf ls ∧ ∀ (i : Nat) (v : Value), lv[i]? = some (some v) → ls[i]? = some (.val v)
def gC (E : gT) (cc : ByteArray) (nL : Nat) (own : String) (ret : Option FieldType) (p : Program) (s : State) (m : MethodId) (args : Array Value) (meth : Method) (c : Code) : Prop :=
  p.tables.exec = Jvm.exec ∧ c.code = cc ∧ c.maxLocals = nL ∧ s.vm.findClass own = some m.cls ∧ (∀ w ∈ gWd, w.before args s = true) ∧ meth.sig.returnType = ret ∧ meth.locks = false ∧ va_K E.1 vwCl (gY E) s ∧ gZ E s.heap.size s
def gR (E : gT) (u : Mm) (nL : Nat) (lv : List (Option Value)) (s : State) (H : Heap) (locs : List Loc) (ls : Array Slot) : Prop :=
  va_P E.1 vwCl (gW E u) H ∧ va_D (gA E s.heap.size) (gW E u) ∧ va_S (gA E s.heap.size) s.heap H locs ∧ gV ls nL lv
abbrev gRm (d : Nat) : Room := { frames := d, cells := 0, slots := 0, locals := 35 * d }
/-- from pc, with these locals, this stack and this memory, the method comes to its end with K -/
def G (E : gT) (cc : ByteArray) (nL : Nat) (own : String) (ret : Option FieldType) (d : Nat) (K : Option Value → Mm → Prop) (pc : Nat) (lv : List (Option Value)) (st : List Value) (u : Mm) : Prop :=
  ∀ (p : Program) (l : Launch) (e : Env) (s : State) (m : MethodId) (args : Array Value) (below : List Frame) (meth : Method) (c : Code) (H : Heap) (locs : List Loc) (ls : Array Slot), gC E cc nL own ret p s m args meth c → gR E u nL lv s H locs ls →
    W p l e (gRm d) s m args below meth c H locs 0 0 (MQ below (gQ E K s.heap.size) args s 0 0 (gA E s.heap.size)) (F0 m pc ls st)
def Con (E : gT) (y : MethodName) (cc : ByteArray) (nL : Nat) (ret : Option FieldType) (d : Nat) (As : List Value) (u : Mm) (K : Option Value → Mm → Prop) : Prop :=
  ∀ (l : Launch) (sz : Nat), Met l y (.code y cc nL ret :: gWd) (gRm d) (va_Pc As (fun U => U.heap.size = sz ∧ va_P E.1 vwCl (gW E u) U.heap ∧ va_K E.1 vwCl (gY E) U ∧ va_D (fun _ => True) (gW E u) ∧ gZ E sz U)) (gQ E K sz) 0 0 (gA E sz)
/-! locals -/
def gTo (lv : List (Option Value)) : List (Nat × Value) := (List.range lv.length).filterMap (fun i => (lv.getD i none).map (fun v => (i, v)))
theorem gTo_mem {lv : List (Option Value)} {i : Nat} {v : Value} : (i, v) ∈ gTo lv ↔ lv[i]? = some (some v) := by
  unfold gTo
  rw [List.mem_filterMap]
  constructor
  · rintro ⟨a, ha, h⟩
    rw [List.mem_range] at ha
    rw [List.getD_eq_getElem?_getD, List.getElem?_eq_getElem ha] at h
    simp only [Option.getD_some, Option.map_eq_some_iff] at h
    obtain ⟨w, hw, e⟩ := h
    cases e
    rw [List.getElem?_eq_getElem ha, hw]
  · intro h
    have hl := (List.getElem?_eq_some_iff.mp h).1
    refine ⟨i, List.mem_range.mpr hl, ?_⟩
    rw [List.getD_eq_getElem?_getD, h]
    rfl
theorem gV.has {ls : Array Slot} {nL : Nat} {lv : List (Option Value)} (h : gV ls nL lv) : lv_has ls nL (gTo lv) := ⟨h.1, h.2.1, fun q hq => h.2.2 q.1 q.2 (gTo_mem.mp hq)⟩
def gOk (lv : List (Option Value)) (i : Nat) : Bool := i == 0 || (match lv.getD (i - 1) none with
    | some v => v.category == 1
    | none => true)
theorem gOk_of {lv : List (Option Value)} {i j : Nat} {v : Value} (h : gOk lv i = true) (hj : j + 1 = i) (hv : lv[j]? = some (some v)) : v.category = 1 := by
  subst hj
  unfold gOk at h
  rw [Nat.add_sub_cancel, List.getD_eq_getElem?_getD, hv] at h
  simpa using h
theorem gV_set {ls : Array Slot} {nL i : Nat} {lv : List (Option Value)} {v : Value} (ho : gOk lv i = true) (h : lv_has ls nL ((i, v) :: (gTo lv).filter (fun q => !(q.1 == i) && !(q.1 + 1 == i && q.2.category == 2)))) : gV ls nL (lv.set i (some v)) := by
  refine ⟨h.1, h.2.1, fun j w hj => ?_⟩
  by_cases e : j = i
  · subst e
    have hl : j < lv.length := by
      have := (List.getElem?_eq_some_iff.mp hj).1
      rwa [List.length_set] at this
    rw [List.getElem?_set_self hl] at hj
    cases hj
    exact h.2.2 (j, v) List.mem_cons_self
  · rw [List.getElem?_set_ne (fun q => e q.symm)] at hj
    refine h.2.2 (j, w) (List.mem_cons_of_mem _ (List.mem_filter.mpr ⟨gTo_mem.mpr hj, ?_⟩))
    by_cases e2 : j + 1 = i
    · have hc := gOk_of ho e2 hj
      simp [e, hc]
    · simp [e, e2]
theorem gV_set2 {ls : Array Slot} {nL i : Nat} {lv : List (Option Value)} {v : Value} (ho : gOk lv i = true) (h : lv_has ls nL ((i, v) :: (gTo lv).filter (fun q => !(q.1 == i) && (!(q.1 == i + 1) && !(q.1 + 1 == i && q.2.category == 2))))) : gV ls nL ((lv.set i (some v)).set (i + 1) none) := by
  refine ⟨h.1, h.2.1, fun j w hj => ?_⟩
  by_cases e1 : j = i + 1
  · subst e1
    rw [List.getElem?_set] at hj
    simp only [if_true] at hj
    split at hj
    · cases hj
    · cases hj
  · rw [List.getElem?_set_ne (fun q => e1 q.symm)] at hj
    by_cases e : j = i
    · subst e
      have hl : j < lv.length := by
        have := (List.getElem?_eq_some_iff.mp hj).1
        rwa [List.length_set] at this
      rw [List.getElem?_set_self hl] at hj
      cases hj
      exact h.2.2 (j, v) List.mem_cons_self
    · rw [List.getElem?_set_ne (fun q => e q.symm)] at hj
      refine h.2.2 (j, w) (List.mem_cons_of_mem _ (List.mem_filter.mpr ⟨gTo_mem.mpr hj, ?_⟩))
      by_cases e2 : j + 1 = i
      · have hc := gOk_of ho e2 hj
        simp [e, e1, hc]
      · simp [e, e1, e2]
/-- the locals with which a method begins -/
def gEn (nL : Nat) (As : List Value) : List (Option Value) := (List.range nL).map (fun i => ((lv_args 0 As).find? (fun q => q.1 == i)).map (fun q => q.2))
theorem gEn_of {ls : Array Slot} {nL : Nat} {As : List Value} (h : lv_has ls nL (lv_args 0 As)) : gV ls nL (gEn nL As) := by
  refine ⟨h.1, h.2.1, fun i v hi => ?_⟩
  unfold gEn at hi
  rw [List.getElem?_map] at hi
  by_cases hl : i < nL
  · rw [List.getElem?_range hl] at hi
    simp only [Option.map_some, Option.some.injEq, Option.map_eq_some_iff] at hi
    obtain ⟨q, hq, rfl⟩ := hi
    have h1 := List.mem_of_find?_eq_some hq
    have h2 := List.find?_some hq
    have h3 : q.1 = i := by simpa using h2
    rw [← h3]
    exact h.2.2 q h1
  · rw [List.getElem?_eq_none (by rw [List.length_range]; omega)] at hi
    cases hi
/-- fewer known locals -/
def gLe (lw lv : List (Option Value)) : Prop := ∀ (i : Nat) (v : Value), lw[i]? = some (some v) → lv[i]? = some (some v)
theorem gLe_nil {lv : List (Option Value)} : gLe [] lv := fun i v h => by simp at h
theorem gLe_n {o : Option Value} {lw lv : List (Option Value)} (h : gLe lw lv) : gLe (none :: lw) (o :: lv) := fun i v hi => by
  cases i with
  | zero => simp at hi
  | succ i => simpa using h i v (by simpa using hi)
theorem gLe_s {o : Option Value} {lw lv : List (Option Value)} (h : gLe lw lv) : gLe (o :: lw) (o :: lv) := fun i v hi => by
  cases i with
  | zero => simpa using hi
  | succ i => simpa using h i v (by simpa using hi)
/-! the static row and the frame's own set -/
theorem gA_mono {E : gT} {a b : Nat} (h : a ≤ b) (q : Nat) (hq : gA E b q) : gA E a q := hq.imp id (fun z => Nat.le_trans h z)
theorem gZ.at {E : gT} {s U : State} {H : Heap} {locs : List Loc} (h : gZ E s.heap.size s) (hS : va_S (gA E s.heap.size) s.heap H locs) (hU : U.heap = H) (hvm : s.vm.Alike U.vm) : gZ E H.size U := by
  refine ⟨?_, ?_⟩
  · rw [hU]
    exact va_Z.moved hvm ((h.1.kept hS.2.1).narrow (gA_mono hS.1))
  · rw [hU]
    exact va_T.moved hvm ((h.2.kept hS.2.1).narrow (gA_mono hS.1))
theorem gZ.moved {E : gT} {sz : Nat} {u U : State} (h : gZ E sz u) (hh : U.heap = u.heap) (hvm : u.vm.Alike U.vm) : gZ E sz U := by
  refine ⟨?_, ?_⟩
  · rw [hh]
    exact va_Z.moved hvm h.1
  · rw [hh]
    exact va_T.moved hvm h.2
theorem gD_self {E : gT} {u : Mm} {A : Nat → Prop} {sz : Nat} (h : va_D A (gW E u)) : va_D (gA E sz) (gW E u) := ⟨h.1, fun k q hk => by
  obtain ⟨h1, h2⟩ := gW_in hk
  exact Or.inl ⟨k, h1, h2⟩⟩
/-- a contract out of the walk of its body -/
theorem Con.of {E : gT} {y : MethodName} {cc : ByteArray} {nL : Nat} {ret : Option FieldType} {d : Nat} {As : List Value} {u : Mm} {K : Option Value → Mm → Prop} {lv : List (Option Value)} (hy : plainName y.cls = true) (hlen : (lg_sl As).length ≤ nL) (hlv : gEn nL As = lv) (h : G E cc nL y.cls ret d K 0 lv [] u) : Con E y cc nL ret d As u K := by
  intro l sz
  refine Met.ofW (cc := cc) (maxL := nL) (ret := ret) hy rfl ?_
  intro p e s m args below meth c s₁ B hml hv
  obtain ⟨rfl, hsz, hP, hK, hD0, hZ⟩ := hv
  subst hsz
  subst hlv
  rw [lg_entry_eq]
  refine h p l e s m _ below meth c s.heap [] _ ⟨B.exec, B.bytes, hml, findClass_of_methodNamed B.named, fun w hw => atoms_spec (ws := .code y cc nL ret :: gWd) B.pre w (List.mem_cons_of_mem _ hw), B.returns, B.notSynchronized, hK, hZ⟩ ⟨hP, gD_self hD0, va_S.rf, gEn_of (lv_entry As hlen)⟩
theorem Con.mono {E : gT} {y : MethodName} {cc : ByteArray} {nL : Nat} {ret : Option FieldType} {d : Nat} {As : List Value} {u : Mm} {K : Option Value → Mm → Prop} {As' : List Value} {u' : Mm} (h : Con E y cc nL ret d As u K) (h1 : As = As') (h2 : u = u') : Con E y cc nL ret d As' u' K := by
  subst h1; subst h2; exact h
end
section
section JG
variable {E : gT} {cc : ByteArray} {nL : Nat} {own : String} {ret : Option FieldType} {d : Nat} {K : Option Value → Mm → Prop} {pc : Nat} {lv : List (Option Value)} {st : List Value} {u : Mm}
theorem jg_iload_n {k : Fin 4} {i : Nat} {x : Int32} (hd : decode cc pc = .ok (.iload_n k, 1)) (hi : (k : Nat) = i) (hl : lv[i]? = some (some (.int x))) (kk : G E cc nL own ret d K (pc + 1) lv (.int x :: st) u) : G E cc nL own ret d K pc lv st u := by
  intro p l e s m args below meth c H locs ls hC hR
  exact lv_iload_n hC.1 hC.2.1 hd hi (hR.2.2.2.2.2 _ _ hl) (kk p l e s m args below meth c H locs ls hC hR)
theorem jg_iload {i : Nat} {x : Int32} (hd : decode cc pc = .ok (.iload i, 2)) (hl : lv[i]? = some (some (.int x))) (kk : G E cc nL own ret d K (pc + 2) lv (.int x :: st) u) : G E cc nL own ret d K pc lv st u := by
  intro p l e s m args below meth c H locs ls hC hR
  exact lv_iload hC.1 hC.2.1 hd (hR.2.2.2.2.2 _ _ hl) (kk p l e s m args below meth c H locs ls hC hR)
theorem jg_lload_n {k : Fin 4} {i : Nat} {x : Int64} (hd : decode cc pc = .ok (.lload_n k, 1)) (hi : (k : Nat) = i) (hl : lv[i]? = some (some (.long x))) (kk : G E cc nL own ret d K (pc + 1) lv (.long x :: st) u) : G E cc nL own ret d K pc lv st u := by
  intro p l e s m args below meth c H locs ls hC hR
  exact lv_lload_n hC.1 hC.2.1 hd hi (hR.2.2.2.2.2 _ _ hl) (kk p l e s m args below meth c H locs ls hC hR)
theorem jg_lload {i : Nat} {x : Int64} (hd : decode cc pc = .ok (.lload i, 2)) (hl : lv[i]? = some (some (.long x))) (kk : G E cc nL own ret d K (pc + 2) lv (.long x :: st) u) : G E cc nL own ret d K pc lv st u := by
  intro p l e s m args below meth c H locs ls hC hR
  exact lv_lload hC.1 hC.2.1 hd (hR.2.2.2.2.2 _ _ hl) (kk p l e s m args below meth c H locs ls hC hR)
theorem jg_aload_n {k : Fin 4} {i : Nat} {x : Nat} (hd : decode cc pc = .ok (.aload_n k, 1)) (hi : (k : Nat) = i) (hl : lv[i]? = some (some (.ref x))) (kk : G E cc nL own ret d K (pc + 1) lv (.ref x :: st) u) : G E cc nL own ret d K pc lv st u := by
  intro p l e s m args below meth c H locs ls hC hR
  exact lv_aload_n hC.1 hC.2.1 hd hi (hR.2.2.2.2.2 _ _ hl) (kk p l e s m args below meth c H locs ls hC hR)
theorem jg_aload {i : Nat} {x : Nat} (hd : decode cc pc = .ok (.aload i, 2)) (hl : lv[i]? = some (some (.ref x))) (kk : G E cc nL own ret d K (pc + 2) lv (.ref x :: st) u) : G E cc nL own ret d K pc lv st u := by
  intro p l e s m args below meth c H locs ls hC hR
  exact lv_aload hC.1 hC.2.1 hd (hR.2.2.2.2.2 _ _ hl) (kk p l e s m args below meth c H locs ls hC hR)
theorem jg_iconst {n : Int} {v : Int32} (hd : decode cc pc = .ok (.iconst n, 1)) (hv : Int32.ofInt n = v) (kk : G E cc nL own ret d K (pc + 1) lv (.int v :: st) u) : G E cc nL own ret d K pc lv st u := by
  intro p l e s m args below meth c H locs ls hC hR
  exact lv_iconst hC.1 hC.2.1 hd hv (kk p l e s m args below meth c H locs ls hC hR)
theorem jg_bipush {n : Int} {v : Int32} (hd : decode cc pc = .ok (.bipush n, 2)) (hv : (Int8.ofInt n).toInt32 = v) (kk : G E cc nL own ret d K (pc + 2) lv (.int v :: st) u) : G E cc nL own ret d K pc lv st u := by
  intro p l e s m args below meth c H locs ls hC hR
  exact lv_bipush hC.1 hC.2.1 hd hv (kk p l e s m args below meth c H locs ls hC hR)
theorem jg_sipush {n : Int} {v : Int32} (hd : decode cc pc = .ok (.sipush n, 3)) (hv : (Int16.ofInt n).toInt32 = v) (kk : G E cc nL own ret d K (pc + 3) lv (.int v :: st) u) : G E cc nL own ret d K pc lv st u := by
  intro p l e s m args below meth c H locs ls hC hR
  exact lv_sipush hC.1 hC.2.1 hd hv (kk p l e s m args below meth c H locs ls hC hR)
theorem jg_lconst {n : Fin 2} {v : Int64} (hd : decode cc pc = .ok (.lconst n, 1)) (hv : Int64.ofNat (n : Nat) = v) (kk : G E cc nL own ret d K (pc + 1) lv (.long v :: st) u) : G E cc nL own ret d K pc lv st u := by
  intro p l e s m args below meth c H locs ls hC hR
  exact lv_lconst hC.1 hC.2.1 hd hv (kk p l e s m args below meth c H locs ls hC hR)
theorem jg_iadd {x y : Int32} (hd : decode cc pc = .ok (.iadd, 1))  (kk : G E cc nL own ret d K (pc + 1) lv (.int (x + y) :: st) u) : G E cc nL own ret d K pc lv (.int y :: .int x :: st) u := by
  intro p l e s m args below meth c H locs ls hC hR
  exact lv_iadd hC.1 hC.2.1 hd (kk p l e s m args below meth c H locs ls hC hR)
theorem jg_iaddE {x y z : Int32} (hd : decode cc pc = .ok (.iadd, 1)) (hz : x + y = z) (kk : G E cc nL own ret d K (pc + 1) lv (.int z :: st) u) : G E cc nL own ret d K pc lv (.int y :: .int x :: st) u := by
  subst hz
  exact jg_iadd hd kk
theorem jg_isub {x y : Int32} (hd : decode cc pc = .ok (.isub, 1))  (kk : G E cc nL own ret d K (pc + 1) lv (.int (x - y) :: st) u) : G E cc nL own ret d K pc lv (.int y :: .int x :: st) u := by
  intro p l e s m args below meth c H locs ls hC hR
  exact lv_isub hC.1 hC.2.1 hd (kk p l e s m args below meth c H locs ls hC hR)
theorem jg_isubE {x y z : Int32} (hd : decode cc pc = .ok (.isub, 1)) (hz : x - y = z) (kk : G E cc nL own ret d K (pc + 1) lv (.int z :: st) u) : G E cc nL own ret d K pc lv (.int y :: .int x :: st) u := by
  subst hz
  exact jg_isub hd kk
theorem jg_imul {x y : Int32} (hd : decode cc pc = .ok (.imul, 1))  (kk : G E cc nL own ret d K (pc + 1) lv (.int (x * y) :: st) u) : G E cc nL own ret d K pc lv (.int y :: .int x :: st) u := by
  intro p l e s m args below meth c H locs ls hC hR
  exact lv_imul hC.1 hC.2.1 hd (kk p l e s m args below meth c H locs ls hC hR)
theorem jg_imulE {x y z : Int32} (hd : decode cc pc = .ok (.imul, 1)) (hz : x * y = z) (kk : G E cc nL own ret d K (pc + 1) lv (.int z :: st) u) : G E cc nL own ret d K pc lv (.int y :: .int x :: st) u := by
  subst hz
  exact jg_imul hd kk
theorem jg_iand {x y : Int32} (hd : decode cc pc = .ok (.iand, 1))  (kk : G E cc nL own ret d K (pc + 1) lv (.int (x &&& y) :: st) u) : G E cc nL own ret d K pc lv (.int y :: .int x :: st) u := by
  intro p l e s m args below meth c H locs ls hC hR
  exact lv_iand hC.1 hC.2.1 hd (kk p l e s m args below meth c H locs ls hC hR)
theorem jg_iandE {x y z : Int32} (hd : decode cc pc = .ok (.iand, 1)) (hz : x &&& y = z) (kk : G E cc nL own ret d K (pc + 1) lv (.int z :: st) u) : G E cc nL own ret d K pc lv (.int y :: .int x :: st) u := by
  subst hz
  exact jg_iand hd kk
theorem jg_ior {x y : Int32} (hd : decode cc pc = .ok (.ior, 1))  (kk : G E cc nL own ret d K (pc + 1) lv (.int (x ||| y) :: st) u) : G E cc nL own ret d K pc lv (.int y :: .int x :: st) u := by
  intro p l e s m args below meth c H locs ls hC hR
  exact lv_ior hC.1 hC.2.1 hd (kk p l e s m args below meth c H locs ls hC hR)
theorem jg_iorE {x y z : Int32} (hd : decode cc pc = .ok (.ior, 1)) (hz : x ||| y = z) (kk : G E cc nL own ret d K (pc + 1) lv (.int z :: st) u) : G E cc nL own ret d K pc lv (.int y :: .int x :: st) u := by
  subst hz
  exact jg_ior hd kk
theorem jg_ishl {x y : Int32} (hd : decode cc pc = .ok (.ishl, 1))  (kk : G E cc nL own ret d K (pc + 1) lv (.int (x <<< (y &&& 31)) :: st) u) : G E cc nL own ret d K pc lv (.int y :: .int x :: st) u := by
  intro p l e s m args below meth c H locs ls hC hR
  exact lv_ishl hC.1 hC.2.1 hd (kk p l e s m args below meth c H locs ls hC hR)
theorem jg_ishlE {x y z : Int32} (hd : decode cc pc = .ok (.ishl, 1)) (hz : x <<< (y &&& 31) = z) (kk : G E cc nL own ret d K (pc + 1) lv (.int z :: st) u) : G E cc nL own ret d K pc lv (.int y :: .int x :: st) u := by
  subst hz
  exact jg_ishl hd kk
theorem jg_ishr {x y : Int32} (hd : decode cc pc = .ok (.ishr, 1))  (kk : G E cc nL own ret d K (pc + 1) lv (.int (x >>> (y &&& 31)) :: st) u) : G E cc nL own ret d K pc lv (.int y :: .int x :: st) u := by
  intro p l e s m args below meth c H locs ls hC hR
  exact lv_ishr hC.1 hC.2.1 hd (kk p l e s m args below meth c H locs ls hC hR)
theorem jg_ishrE {x y z : Int32} (hd : decode cc pc = .ok (.ishr, 1)) (hz : x >>> (y &&& 31) = z) (kk : G E cc nL own ret d K (pc + 1) lv (.int z :: st) u) : G E cc nL own ret d K pc lv (.int y :: .int x :: st) u := by
  subst hz
  exact jg_ishr hd kk
theorem jg_idivE {x y z : Int32} (hd : decode cc pc = .ok (.idiv, 1)) (hne : ¬ y = 0) (hz : x / y = z) (kk : G E cc nL own ret d K (pc + 1) lv (.int z :: st) u) : G E cc nL own ret d K pc lv (.int y :: .int x :: st) u := by
  subst hz
  intro p l e s m args below meth c H locs ls hC hR
  exact lv_idiv hC.1 hC.2.1 hd hne (kk p l e s m args below meth c H locs ls hC hR)
theorem jg_iremE {x y z : Int32} (hd : decode cc pc = .ok (.irem, 1)) (hne : ¬ y = 0) (hz : x - x / y * y = z) (kk : G E cc nL own ret d K (pc + 1) lv (.int z :: st) u) : G E cc nL own ret d K pc lv (.int y :: .int x :: st) u := by
  subst hz
  intro p l e s m args below meth c H locs ls hC hR
  exact lv_irem hC.1 hC.2.1 hd hne (kk p l e s m args below meth c H locs ls hC hR)
theorem jg_ldivE {x y z : Int64} (hd : decode cc pc = .ok (.ldiv, 1)) (hne : ¬ y = 0) (hz : x / y = z) (kk : G E cc nL own ret d K (pc + 1) lv (.long z :: st) u) : G E cc nL own ret d K pc lv (.long y :: .long x :: st) u := by
  subst hz
  intro p l e s m args below meth c H locs ls hC hR
  exact lv_ldiv hC.1 hC.2.1 hd hne (kk p l e s m args below meth c H locs ls hC hR)
theorem jg_lremE {x y z : Int64} (hd : decode cc pc = .ok (.lrem, 1)) (hne : ¬ y = 0) (hz : x - x / y * y = z) (kk : G E cc nL own ret d K (pc + 1) lv (.long z :: st) u) : G E cc nL own ret d K pc lv (.long y :: .long x :: st) u := by
  subst hz
  intro p l e s m args below meth c H locs ls hC hR
  exact lv_lrem hC.1 hC.2.1 hd hne (kk p l e s m args below meth c H locs ls hC hR)
theorem jg_lcmp {x y : Int64} (hd : decode cc pc = .ok (.lcmp, 1))  (kk : G E cc nL own ret d K (pc + 1) lv (.int (lg_cmp x y) :: st) u) : G E cc nL own ret d K pc lv (.long y :: .long x :: st) u := by
  intro p l e s m args below meth c H locs ls hC hR
  exact W.lcmp hC.1 hC.2.1 hd (kk p l e s m args below meth c H locs ls hC hR)
theorem jg_iushr {x y v : Int32} (hd : decode cc pc = .ok (.iushr, 1)) (hv : (x.toUInt32 >>> (y.toUInt32 &&& Int32.toUInt32 31)).toInt32 = v) (kk : G E cc nL own ret d K (pc + 1) lv (.int v :: st) u) : G E cc nL own ret d K pc lv (.int y :: .int x :: st) u := by
  intro p l e s m args below meth c H locs ls hC hR
  exact lv_iushr hC.1 hC.2.1 hd hv (kk p l e s m args below meth c H locs ls hC hR)
theorem jg_i2l {x : Int32} {v : Int64} (hd : decode cc pc = .ok (.i2l, 1)) (hv : x.toInt64 = v) (kk : G E cc nL own ret d K (pc + 1) lv (.long v :: st) u) : G E cc nL own ret d K pc lv (.int x :: st) u := by
  intro p l e s m args below meth c H locs ls hC hR
  exact lv_i2l hC.1 hC.2.1 hd hv (kk p l e s m args below meth c H locs ls hC hR)
theorem jg_i2b {x : Int32} {v : Int32} (hd : decode cc pc = .ok (.i2b, 1)) (hv : x.toInt8.toInt32 = v) (kk : G E cc nL own ret d K (pc + 1) lv (.int v :: st) u) : G E cc nL own ret d K pc lv (.int x :: st) u := by
  intro p l e s m args below meth c H locs ls hC hR
  exact lv_i2b hC.1 hC.2.1 hd hv (kk p l e s m args below meth c H locs ls hC hR)
theorem jg_i2s {x : Int32} {v : Int32} (hd : decode cc pc = .ok (.i2s, 1)) (hv : x.toInt16.toInt32 = v) (kk : G E cc nL own ret d K (pc + 1) lv (.int v :: st) u) : G E cc nL own ret d K pc lv (.int x :: st) u := by
  intro p l e s m args below meth c H locs ls hC hR
  exact lv_i2s hC.1 hC.2.1 hd hv (kk p l e s m args below meth c H locs ls hC hR)
theorem jg_dup {va : Value} (hd : decode cc pc = .ok (.dup, 1)) (hva : va.category = 1) (kk : G E cc nL own ret d K (pc + 1) lv (va :: va :: st) u) : G E cc nL own ret d K pc lv (va :: st) u := by
  intro p l e s m args below meth c H locs ls hC hR
  exact lv_dup hC.1 hC.2.1 hd hva (kk p l e s m args below meth c H locs ls hC hR)
theorem jg_dup2 {va vb : Value} (hd : decode cc pc = .ok (.dup2, 1)) (hva : va.category = 1) (hvb : vb.category = 1) (kk : G E cc nL own ret d K (pc + 1) lv (va :: vb :: va :: vb :: st) u) : G E cc nL own ret d K pc lv (va :: vb :: st) u := by
  intro p l e s m args below meth c H locs ls hC hR
  exact lv_dup2_11 hC.1 hC.2.1 hd hva hvb (kk p l e s m args below meth c H locs ls hC hR)
theorem jg_if_eq {x : Int32} {off : Int} (tgt : Nat) (hd : decode cc pc = .ok (.ifCond .eq off, 3)) (ht : (pc : Int) + off = (tgt : Int)) (kt : x = 0 → G E cc nL own ret d K tgt lv st u) (kf : ¬ x = 0 → G E cc nL own ret d K (pc + 3) lv st u) : G E cc nL own ret d K pc lv (.int x :: st) u := by
  intro p l e s m args below meth c H locs ls hC hR
  exact lv_if_eq hC.1 hC.2.1 hd ht (fun h => kt h p l e s m args below meth c H locs ls hC hR) (fun h => kf h p l e s m args below meth c H locs ls hC hR)
theorem jg_if_ne {x : Int32} {off : Int} (tgt : Nat) (hd : decode cc pc = .ok (.ifCond .ne off, 3)) (ht : (pc : Int) + off = (tgt : Int)) (kt : ¬ x = 0 → G E cc nL own ret d K tgt lv st u) (kf : x = 0 → G E cc nL own ret d K (pc + 3) lv st u) : G E cc nL own ret d K pc lv (.int x :: st) u := by
  intro p l e s m args below meth c H locs ls hC hR
  exact lv_if_ne hC.1 hC.2.1 hd ht (fun h => kt h p l e s m args below meth c H locs ls hC hR) (fun h => kf h p l e s m args below meth c H locs ls hC hR)
theorem jg_if_lt {x : Int32} {off : Int} (tgt : Nat) (hd : decode cc pc = .ok (.ifCond .lt off, 3)) (ht : (pc : Int) + off = (tgt : Int)) (kt : x < 0 → G E cc nL own ret d K tgt lv st u) (kf : ¬ x < 0 → G E cc nL own ret d K (pc + 3) lv st u) : G E cc nL own ret d K pc lv (.int x :: st) u := by
  intro p l e s m args below meth c H locs ls hC hR
  exact lv_if_lt hC.1 hC.2.1 hd ht (fun h => kt h p l e s m args below meth c H locs ls hC hR) (fun h => kf h p l e s m args below meth c H locs ls hC hR)
theorem jg_if_ge {x : Int32} {off : Int} (tgt : Nat) (hd : decode cc pc = .ok (.ifCond .ge off, 3)) (ht : (pc : Int) + off = (tgt : Int)) (kt : 0 ≤ x → G E cc nL own ret d K tgt lv st u) (kf : ¬ 0 ≤ x → G E cc nL own ret d K (pc + 3) lv st u) : G E cc nL own ret d K pc lv (.int x :: st) u := by
  intro p l e s m args below meth c H locs ls hC hR
  exact lv_if_ge hC.1 hC.2.1 hd ht (fun h => kt h p l e s m args below meth c H locs ls hC hR) (fun h => kf h p l e s m args below meth c H locs ls hC hR)
theorem jg_if_gt {x : Int32} {off : Int} (tgt : Nat) (hd : decode cc pc = .ok (.ifCond .gt off, 3)) (ht : (pc : Int) + off = (tgt : Int)) (kt : 0 < x → G E cc nL own ret d K tgt lv st u) (kf : ¬ 0 < x → G E cc nL own ret d K (pc + 3) lv st u) : G E cc nL own ret d K pc lv (.int x :: st) u := by
  intro p l e s m args below meth c H locs ls hC hR
  exact lv_if_gt hC.1 hC.2.1 hd ht (fun h => kt h p l e s m args below meth c H locs ls hC hR) (fun h => kf h p l e s m args below meth c H locs ls hC hR)
theorem jg_if_le {x : Int32} {off : Int} (tgt : Nat) (hd : decode cc pc = .ok (.ifCond .le off, 3)) (ht : (pc : Int) + off = (tgt : Int)) (kt : x ≤ 0 → G E cc nL own ret d K tgt lv st u) (kf : ¬ x ≤ 0 → G E cc nL own ret d K (pc + 3) lv st u) : G E cc nL own ret d K pc lv (.int x :: st) u := by
  intro p l e s m args below meth c H locs ls hC hR
  exact lv_if_le hC.1 hC.2.1 hd ht (fun h => kt h p l e s m args below meth c H locs ls hC hR) (fun h => kf h p l e s m args below meth c H locs ls hC hR)
theorem jg_icmp_eq {x y : Int32} {off : Int} (tgt : Nat) (hd : decode cc pc = .ok (.if_icmp .eq off, 3)) (ht : (pc : Int) + off = (tgt : Int)) (kt : x = y → G E cc nL own ret d K tgt lv st u) (kf : ¬ x = y → G E cc nL own ret d K (pc + 3) lv st u) : G E cc nL own ret d K pc lv (.int y :: .int x :: st) u := by
  intro p l e s m args below meth c H locs ls hC hR
  exact lv_icmp_eq hC.1 hC.2.1 hd ht (fun h => kt h p l e s m args below meth c H locs ls hC hR) (fun h => kf h p l e s m args below meth c H locs ls hC hR)
theorem jg_icmp_ne {x y : Int32} {off : Int} (tgt : Nat) (hd : decode cc pc = .ok (.if_icmp .ne off, 3)) (ht : (pc : Int) + off = (tgt : Int)) (kt : ¬ x = y → G E cc nL own ret d K tgt lv st u) (kf : x = y → G E cc nL own ret d K (pc + 3) lv st u) : G E cc nL own ret d K pc lv (.int y :: .int x :: st) u := by
  intro p l e s m args below meth c H locs ls hC hR
  exact lv_icmp_ne hC.1 hC.2.1 hd ht (fun h => kt h p l e s m args below meth c H locs ls hC hR) (fun h => kf h p l e s m args below meth c H locs ls hC hR)
theorem jg_icmp_lt {x y : Int32} {off : Int} (tgt : Nat) (hd : decode cc pc = .ok (.if_icmp .lt off, 3)) (ht : (pc : Int) + off = (tgt : Int)) (kt : x < y → G E cc nL own ret d K tgt lv st u) (kf : ¬ x < y → G E cc nL own ret d K (pc + 3) lv st u) : G E cc nL own ret d K pc lv (.int y :: .int x :: st) u := by
  intro p l e s m args below meth c H locs ls hC hR
  exact lv_icmp_lt hC.1 hC.2.1 hd ht (fun h => kt h p l e s m args below meth c H locs ls hC hR) (fun h => kf h p l e s m args below meth c H locs ls hC hR)
theorem jg_icmp_ge {x y : Int32} {off : Int} (tgt : Nat) (hd : decode cc pc = .ok (.if_icmp .ge off, 3)) (ht : (pc : Int) + off = (tgt : Int)) (kt : y ≤ x → G E cc nL own ret d K tgt lv st u) (kf : ¬ y ≤ x → G E cc nL own ret d K (pc + 3) lv st u) : G E cc nL own ret d K pc lv (.int y :: .int x :: st) u := by
  intro p l e s m args below meth c H locs ls hC hR
  exact lv_icmp_ge hC.1 hC.2.1 hd ht (fun h => kt h p l e s m args below meth c H locs ls hC hR) (fun h => kf h p l e s m args below meth c H locs ls hC hR)
theorem jg_icmp_gt {x y : Int32} {off : Int} (tgt : Nat) (hd : decode cc pc = .ok (.if_icmp .gt off, 3)) (ht : (pc : Int) + off = (tgt : Int)) (kt : y < x → G E cc nL own ret d K tgt lv st u) (kf : ¬ y < x → G E cc nL own ret d K (pc + 3) lv st u) : G E cc nL own ret d K pc lv (.int y :: .int x :: st) u := by
  intro p l e s m args below meth c H locs ls hC hR
  exact lv_icmp_gt hC.1 hC.2.1 hd ht (fun h => kt h p l e s m args below meth c H locs ls hC hR) (fun h => kf h p l e s m args below meth c H locs ls hC hR)
theorem jg_icmp_le {x y : Int32} {off : Int} (tgt : Nat) (hd : decode cc pc = .ok (.if_icmp .le off, 3)) (ht : (pc : Int) + off = (tgt : Int)) (kt : x ≤ y → G E cc nL own ret d K tgt lv st u) (kf : ¬ x ≤ y → G E cc nL own ret d K (pc + 3) lv st u) : G E cc nL own ret d K pc lv (.int y :: .int x :: st) u := by
  intro p l e s m args below meth c H locs ls hC hR
  exact lv_icmp_le hC.1 hC.2.1 hd ht (fun h => kt h p l e s m args below meth c H locs ls hC hR) (fun h => kf h p l e s m args below meth c H locs ls hC hR)
theorem jg_goto {off : Int} (tgt : Nat) (hd : decode cc pc = .ok (.goto off, 3)) (ht : (pc : Int) + off = (tgt : Int)) (kk : G E cc nL own ret d K tgt lv st u) : G E cc nL own ret d K pc lv st u := by
  intro p l e s m args below meth c H locs ls hC hR
  exact lv_goto hC.1 hC.2.1 hd ht (kk p l e s m args below meth c H locs ls hC hR)
theorem jg_tableIn {dflt lo hi : Int} {offs : Array Int} {len : Nat} {x : Int32} {off : Int} (tgt : Nat) (hd : decode cc pc = .ok (.tableswitch dflt lo hi offs, len)) (h1 : ¬ x.toInt < lo) (h2 : ¬ hi < x.toInt) (ho : offs[(x.toInt - lo).toNat]? = some off) (ht : (pc : Int) + off = (tgt : Int)) (kk : G E cc nL own ret d K tgt lv st u) : G E cc nL own ret d K pc lv (.int x :: st) u := by
  intro p l e s m args below meth c H locs ls hC hR
  exact lv_tableIn hC.1 hC.2.1 hd h1 h2 ho ht (kk p l e s m args below meth c H locs ls hC hR)
theorem jg_tableOut {dflt lo hi : Int} {offs : Array Int} {len : Nat} {x : Int32} (tgt : Nat) (hd : decode cc pc = .ok (.tableswitch dflt lo hi offs, len)) (h : x.toInt < lo ∨ hi < x.toInt) (ht : (pc : Int) + dflt = (tgt : Int)) (kk : G E cc nL own ret d K tgt lv st u) : G E cc nL own ret d K pc lv (.int x :: st) u := by
  intro p l e s m args below meth c H locs ls hC hR
  exact lv_tableOut hC.1 hC.2.1 hd h ht (kk p l e s m args below meth c H locs ls hC hR)
theorem jg_lookup {dflt : Int} {ps : Array (Int × Int)} {len : Nat} {x : Int32} {off : Int} (tgt : Nat) (hd : decode cc pc = .ok (.lookupswitch dflt ps, len)) (hp : (ps.toList.zip (ps.toList.drop 1)).all (fun (a, next) => a.1 < next.1) = true) (ho : Op.lookupswitch.offset ps.toList dflt x.toInt = off) (ht : (pc : Int) + off = (tgt : Int)) (kk : G E cc nL own ret d K tgt lv st u) : G E cc nL own ret d K pc lv (.int x :: st) u := by
  intro p l e s m args below meth c H locs ls hC hR
  exact lv_lookup hC.1 hC.2.1 hd hp ho ht (kk p l e s m args below meth c H locs ls hC hR)
theorem jg_istore_n {k : Fin 4} {i : Nat} {x : Int32} (hd : decode cc pc = .ok (.istore_n k, 1)) (hi : (k : Nat) = i) (hn : i < nL) (ho : gOk lv i = true) (kk : G E cc nL own ret d K (pc + 1) (lv.set i (some (.int x))) st u) : G E cc nL own ret d K pc lv (.int x :: st) u := by
  intro p l e s m args below meth c H locs ls hC hR
  exact lv_istore_n hC.1 hC.2.1 hd hi hR.2.2.2.has hn rfl (fun ls' h' => (kk p l e s m args below meth c H locs ls' hC ⟨hR.1, hR.2.1, hR.2.2.1, gV_set ho h'⟩))
theorem jg_istore {i : Nat} {x : Int32} (hd : decode cc pc = .ok (.istore i, 2)) (hn : i < nL) (ho : gOk lv i = true) (kk : G E cc nL own ret d K (pc + 2) (lv.set i (some (.int x))) st u) : G E cc nL own ret d K pc lv (.int x :: st) u := by
  intro p l e s m args below meth c H locs ls hC hR
  exact lv_istore hC.1 hC.2.1 hd hR.2.2.2.has hn rfl (fun ls' h' => (kk p l e s m args below meth c H locs ls' hC ⟨hR.1, hR.2.1, hR.2.2.1, gV_set ho h'⟩))
theorem jg_astore_n {k : Fin 4} {i : Nat} {x : Nat} (hd : decode cc pc = .ok (.astore_n k, 1)) (hi : (k : Nat) = i) (hn : i < nL) (ho : gOk lv i = true) (kk : G E cc nL own ret d K (pc + 1) (lv.set i (some (.ref x))) st u) : G E cc nL own ret d K pc lv (.ref x :: st) u := by
  intro p l e s m args below meth c H locs ls hC hR
  exact lv_astore_n hC.1 hC.2.1 hd hi hR.2.2.2.has hn rfl (fun ls' h' => (kk p l e s m args below meth c H locs ls' hC ⟨hR.1, hR.2.1, hR.2.2.1, gV_set ho h'⟩))
theorem jg_astore {i : Nat} {x : Nat} (hd : decode cc pc = .ok (.astore i, 2)) (hn : i < nL) (ho : gOk lv i = true) (kk : G E cc nL own ret d K (pc + 2) (lv.set i (some (.ref x))) st u) : G E cc nL own ret d K pc lv (.ref x :: st) u := by
  intro p l e s m args below meth c H locs ls hC hR
  exact lv_astore hC.1 hC.2.1 hd hR.2.2.2.has hn rfl (fun ls' h' => (kk p l e s m args below meth c H locs ls' hC ⟨hR.1, hR.2.1, hR.2.2.1, gV_set ho h'⟩))
theorem jg_lstore_n {k : Fin 4} {i : Nat} {x : Int64} (hd : decode cc pc = .ok (.lstore_n k, 1)) (hi : (k : Nat) = i) (hn : i + 1 < nL) (ho : gOk lv i = true) (kk : G E cc nL own ret d K (pc + 1) ((lv.set i (some (.long x))).set (i + 1) none) st u) : G E cc nL own ret d K pc lv (.long x :: st) u := by
  intro p l e s m args below meth c H locs ls hC hR
  exact lv_lstore_n hC.1 hC.2.1 hd hi hR.2.2.2.has hn rfl (fun ls' h' => (kk p l e s m args below meth c H locs ls' hC ⟨hR.1, hR.2.1, hR.2.2.1, gV_set2 ho h'⟩))
theorem jg_lstore {i : Nat} {x : Int64} (hd : decode cc pc = .ok (.lstore i, 2)) (hn : i + 1 < nL) (ho : gOk lv i = true) (kk : G E cc nL own ret d K (pc + 2) ((lv.set i (some (.long x))).set (i + 1) none) st u) : G E cc nL own ret d K pc lv (.long x :: st) u := by
  intro p l e s m args below meth c H locs ls hC hR
  exact lv_lstore hC.1 hC.2.1 hd hR.2.2.2.has hn rfl (fun ls' h' => (kk p l e s m args below meth c H locs ls' hC ⟨hR.1, hR.2.1, hR.2.2.1, gV_set2 ho h'⟩))
theorem jg_iinc {i : Nat} {n : Int} {x v : Int32} (hd : decode cc pc = .ok (.iinc i n, 3)) (hl : lv[i]? = some (some (.int x))) (hv : x + Int32.ofInt n = v) (hn : i < nL) (ho : gOk lv i = true) (kk : G E cc nL own ret d K (pc + 3) (lv.set i (some (.int v))) st u) : G E cc nL own ret d K pc lv st u := by
  intro p l e s m args below meth c H locs ls hC hR
  obtain ⟨k, hk⟩ := List.getElem?_of_mem (gTo_mem.mpr hl)
  exact lv_iinc hC.1 hC.2.1 hd hR.2.2.2.has hk hv hn rfl (fun ls' h' => (kk p l e s m args below meth c H locs ls' hC ⟨hR.1, hR.2.1, hR.2.2.1, gV_set ho h'⟩))
theorem jg_weak {lw : List (Option Value)} (h : gLe lw lv) (kk : G E cc nL own ret d K pc lw st u) : G E cc nL own ret d K pc lv st u := by
  intro p l e s m args below meth c H locs ls hC hR
  exact kk p l e s m args below meth c H locs ls hC ⟨hR.1, hR.2.1, hR.2.2.1, hR.2.2.2.1, hR.2.2.2.2.1, fun i v hi => hR.2.2.2.2.2 i v (h i v hi)⟩
theorem jg_lv {lw : List (Option Value)} (h : lv = lw) (kk : G E cc nL own ret d K pc lw st u) : G E cc nL own ret d K pc lv st u := by
  subst h; exact kk
theorem jg_mem {u' : Mm} (h : u = u') (kk : G E cc nL own ret d K pc lv st u') : G E cc nL own ret d K pc lv st u := by
  subst h; exact kk
theorem jg_top {x y : Int32} (h : x = y) (kk : G E cc nL own ret d K pc lv (.int y :: st) u) : G E cc nL own ret d K pc lv (.int x :: st) u := by
  subst h; exact kk
theorem jg_stk {st' : List Value} (h : st = st') (kk : G E cc nL own ret d K pc lv st' u) : G E cc nL own ret d K pc lv st u := by
  subst h; exact kk
theorem jg_ldc2 {idx : Nat} {v : Int64} (hw : Cond.constantLong own idx v ∈ gWd) (hd : decode cc pc = .ok (.ldc2_w idx, 3)) (kk : G E cc nL own ret d K (pc + 3) lv (.long v :: st) u) : G E cc nL own ret d K pc lv st u := by
  intro p l e s m args below meth c H locs ls hC hR
  exact lv_ldc2 hC.1 hC.2.1 hC.2.2.2.1 (hC.2.2.2.2.1 _ hw) hd (kk p l e s m args below meth c H locs ls hC hR)
theorem jg_ldcw {idx : Nat} {v : Int32} (hw : Cond.constant own idx v ∈ gWd) (hd : decode cc pc = .ok (.ldc_w idx, 3)) (kk : G E cc nL own ret d K (pc + 3) lv (.int v :: st) u) : G E cc nL own ret d K pc lv st u := by
  intro p l e s m args below meth c H locs ls hC hR
  exact lv_ldcw hC.1 hC.2.1 hC.2.2.2.1 (hC.2.2.2.2.1 _ hw) hd (kk p l e s m args below meth c H locs ls hC hR)
/-! fields -/
/-- entry idx of own's pool is field j of class ci -/
def gF (own : String) (idx ci j : Nat) : Prop := ∃ q : vw_C, vwCl[ci]? = some q ∧ j < q.2.2 ∧ Cond.fieldLink own idx (q.2.1 j).1 (q.2.1 j).2.1 (q.2.1 j).2.2.1 ∈ gWd ∧ ∀ w ∈ u_ws q.1 q.2.1 q.2.2, w ∈ gWd
/-- .. and may be written, of type ty -/
def gP (own : String) (idx ci j : Nat) (ty : FieldType) : Prop := ∃ q : vw_C, vwCl[ci]? = some q ∧ j < q.2.2 ∧ Cond.fieldLink own idx (q.2.1 j).1 (q.2.1 j).2.1 (q.2.1 j).2.2.1 ∈ gWd ∧ (∀ w ∈ u_ws q.1 q.2.1 q.2.2, w ∈ gWd) ∧ (∃ ty0 : Nat → FieldType, ∀ k, k < q.2.2 → parseFieldDescriptor (q.2.1 k).2.2.1 = some (ty0 k)) ∧ (∀ a, a < q.2.2 → ∀ b, b < q.2.2 → a ≠ b → (q.2.1 a).2.1 ≠ (q.2.1 b).2.1) ∧ (q.2.1 j).2.2.2 = false ∧ parseFieldDescriptor (q.2.1 j).2.2.1 = some ty
theorem jg_geti {idx ci j k : Nat} {fs : List (Option Nat)} (hf : gF own idx ci j) (hs : sTb[k]? = some (.inl (ci, fs))) (hj : fs[j]? = some none) (hd : decode cc pc = .ok (.getfield idx, 3)) (kk : G E cc nL own ret d K (pc + 3) lv (.int (u k j) :: st) u) : G E cc nL own ret d K pc lv (.ref (E.2.1 k) :: st) u := by
  intro p l e s m args below meth c H locs ls hC hR
  obtain ⟨q, hq, hn, hw, hin⟩ := hf
  refine va_get (D := E.1) (cl := vwCl) (C := q.1) (T := q.2.1) (N := q.2.2) (ref := (q.2.1 j).1) hC.1 hC.2.1 hC.2.2.2.2.1 hin hC.2.2.2.1 hC.2.2.2.2.2.2.2.1 hR.1 k (gW_get hs) hq j hn (hC.2.2.2.2.1 _ hw) (fun _ h => h) ?_ hd (kk p l e s m args below meth c H locs ls hC hR)
  rw [List.getElem?_mapIdx, hj]
  rfl
theorem jg_getr {idx ci j k t : Nat} {fs : List (Option Nat)} (hf : gF own idx ci j) (hs : sTb[k]? = some (.inl (ci, fs))) (hj : fs[j]? = some (some t)) (hd : decode cc pc = .ok (.getfield idx, 3)) (kk : G E cc nL own ret d K (pc + 3) lv (.ref (E.2.1 t) :: st) u) : G E cc nL own ret d K pc lv (.ref (E.2.1 k) :: st) u := by
  intro p l e s m args below meth c H locs ls hC hR
  obtain ⟨q, hq, hn, hw, hin⟩ := hf
  refine va_get (D := E.1) (cl := vwCl) (C := q.1) (T := q.2.1) (N := q.2.2) (ref := (q.2.1 j).1) hC.1 hC.2.1 hC.2.2.2.2.1 hin hC.2.2.2.1 hC.2.2.2.2.2.2.2.1 hR.1 k (gW_get hs) hq j hn (hC.2.2.2.2.1 _ hw) (fun _ h => h) ?_ hd (kk p l e s m args below meth c H locs ls hC hR)
  rw [List.getElem?_mapIdx, hj]
  rfl
theorem jg_putT {ty : FieldType} {idx ci j k : Nat} {v : Int32} {fs : List (Option Nat)} (hf : gP own idx ci j ty) (hna : narrow ty (.int v) = .int v) (hfi : fits ty (.int v) = true) (hs : sTb[k]? = some (.inl (ci, fs))) (hj : fs[j]? = some none) (hd : decode cc pc = .ok (.putfield idx, 3)) (kk : G E cc nL own ret d K (pc + 3) lv st (s2 u k j v)) : G E cc nL own ret d K pc lv (.int v :: .ref (E.2.1 k) :: st) u := by
  intro p l e s m args below meth c H locs ls hC hR
  obtain ⟨q, hq, hn, hw, hin, ⟨ty0, hty⟩, hnm, hfin, hpd⟩ := hf
  refine va_put (D := E.1) (cl := vwCl) (C := q.1) (T := q.2.1) (N := q.2.2) (ref := (q.2.1 j).1) hC.1 hC.2.1 hC.2.2.2.2.1 hin ty0 hty hnm hC.2.2.2.1 hC.2.2.2.2.2.2.2.1 hR.1 hR.2.1 hR.2.2.1 k (gW_get hs) hq j hn (hC.2.2.2.2.1 _ hw) (fun _ h => h) hfin hpd hna hfi ?_ hd (fun H1 locs1 hP hD hS => ?_)
  · rw [List.length_mapIdx]
    exact (List.getElem?_eq_some_iff.mp hj).1
  · rw [gW_set (m' := s2 u k j v) hs (by rw [s2_at, gFd_set _ _ _ _ hj]; rfl) (fun a h => s2_row h)] at hP hD
    exact kk p l e s m args below meth c H1 locs1 ls hC ⟨hP, hD, hS, hR.2.2.2⟩
theorem jg_puti {idx ci j k : Nat} {v : Int32} {fs : List (Option Nat)} (hf : gP own idx ci j .int) (hs : sTb[k]? = some (.inl (ci, fs))) (hj : fs[j]? = some none) (hd : decode cc pc = .ok (.putfield idx, 3)) (kk : G E cc nL own ret d K (pc + 3) lv st (s2 u k j v)) : G E cc nL own ret d K pc lv (.int v :: .ref (E.2.1 k) :: st) u :=
  jg_putT hf (by first | rfl | exact vp_nar_int v) (by first | rfl | decide) hs hj hd kk
/-! rows -/
theorem jg_iald {k n : Nat} {i : Int32} (hs : sTb[k]? = some (.inr (.inl n))) (hin : vp_in i n) (hd : decode cc pc = .ok (.iaload, 1)) (kk : G E cc nL own ret d K (pc + 1) lv (.int (u k i.toNatClampNeg) :: st) u) : G E cc nL own ret d K pc lv (.int i :: .ref (E.2.1 k) :: st) u := by
  intro p l e s m args below meth c H locs ls hC hR
  exact va_iald hC.1 hC.2.1 hC.2.2.2.2.2.2.2.1 hR.1 k 0 (gW_get hs) rfl hin hd (kk p l e s m args below meth c H locs ls hC hR)
theorem sTb_small : ∀ x ∈ sTb, ∀ n, x = .inr (.inl n) → n < 2 ^ 31 := by
  intro x hx n hn
  have h : sTb.all (fun x => match x with | .inr (.inl n) => decide (n < 2 ^ 31) | _ => true) = true := by decide +kernel
  have h1 := List.all_eq_true.mp h x hx
  subst hn
  simpa using h1
theorem jg_ld {k n : Nat} (j : Nat) {i : Int32} (hs : sTb[k]? = some (.inr (.inl n))) (hj : j < n) (hi : i = nI j) (hd : decode cc pc = .ok (.iaload, 1)) (kk : G E cc nL own ret d K (pc + 1) lv (.int (u k j) :: st) u) : G E cc nL own ret d K pc lv (.int i :: .ref (E.2.1 k) :: st) u := by
  have hn := sTb_small _ (List.mem_of_getElem? hs) n rfl
  subst hi
  refine jg_iald hs (vp_in_nI hj hn) hd ?_
  rw [nI_clamp (by omega)]
  exact kk
theorem jg_st {k n : Nat} (j : Nat) {i x : Int32} (hs : sTb[k]? = some (.inr (.inl n))) (hj : j < n) (hi : i = nI j) (hd : decode cc pc = .ok (.iastore, 1)) (kk : G E cc nL own ret d K (pc + 1) lv st (s2 u k j x)) : G E cc nL own ret d K pc lv (.int x :: .int i :: .ref (E.2.1 k) :: st) u := by
  have hn := sTb_small _ (List.mem_of_getElem? hs) n rfl
  subst hi
  intro p l e s m args below meth c H locs ls hC hR
  refine va_iast hC.1 hC.2.1 hC.2.2.2.2.2.2.2.1 hR.1 hR.2.1 hR.2.2.1 k 0 (gW_get hs) rfl (vp_in_nI hj hn) hd (fun H1 locs1 hP hD hS => ?_)
  rw [nI_clamp (by omega)] at hP hD
  rw [gW_set (m' := s2 u k j x) hs (by rw [s2_at]; rfl) (fun a h => s2_row h)] at hP hD
  exact kk p l e s m args below meth c H1 locs1 ls hC ⟨hP, hD, hS, hR.2.2.2⟩
theorem jg_aald {k z q : Nat} (j : Nat) {i : Int32} {ts : List Nat} (hs : sTb[k]? = some (.inr (.inr (z, ts)))) (hj : ts[j]? = some q) (hl : ts.length < 2 ^ 31) (hi : i = nI j) (hd : decode cc pc = .ok (.aaload, 1)) (kk : G E cc nL own ret d K (pc + 1) lv (.ref (E.2.1 q) :: st) u) : G E cc nL own ret d K pc lv (.int i :: .ref (E.2.1 k) :: st) u := by
  subst hi
  intro p l e s m args below meth c H locs ls hC hR
  have hlt : j < ts.length := (List.getElem?_eq_some_iff.mp hj).1
  have hjc : (nI j).toNatClampNeg = j := nI_clamp (by omega)
  have hin := vp_in_nI hlt hl
  have hcell := hR.1 k _ (gW_get hs)
  have hread : (arrV (if z = 0 then E.2.2.1.2.1 else E.2.2.1.2.2) ts.length (fun i => va_rf ((ts[i]?).map E.2.1))).slots[(nI j).toNatClampNeg]? = some (.ref (E.2.1 q)) := by
    rw [hjc, arrV_read _ _ hlt, hj]
    rfl
  by_cases hz : z = 0
  · subst hz
    exact W.aald (v := .ref (E.2.1 q)) (ty := .object RX2) hC.1 hC.2.1 hcell ((hC.2.2.2.2.2.2.2.1.2 1 _ rfl).1 ts.length (fun i => va_rf ((ts[i]?).map E.2.1))) rfl (fun q => by cases q) (by show ¬ (_ ∨ (arrV _ _ _).slots.size ≤ _); rw [arrV_size]; exact hin) hread rfl rfl hd (kk p l e s m args below meth c H locs ls hC hR)
  · rw [if_neg hz] at hread
    have hcell' : H[E.2.1 k]? = some (arrV E.2.2.1.2.2 ts.length (fun i => va_rf ((ts[i]?).map E.2.1))) := by
      have h9 : H[E.2.1 k]? = some (arrV (if z = 0 then E.2.2.1.2.1 else E.2.2.1.2.2) ts.length (fun i => va_rf ((ts[i]?).map E.2.1))) := hcell
      rw [if_neg hz] at h9
      exact h9
    exact W.aald (v := .ref (E.2.1 q)) (ty := .array .int) hC.1 hC.2.1 hcell' ((hC.2.2.2.2.2.2.2.1.2 2 _ rfl).1 ts.length (fun i => va_rf ((ts[i]?).map E.2.1))) rfl (fun q => by cases q) (by show ¬ (_ ∨ (arrV _ _ _).slots.size ≤ _); rw [arrV_size]; exact hin) hread rfl rfl hd (kk p l e s m args below meth c H locs ls hC hR)
/-! the class's own static row -/
theorem jg_hmo {idx : Nat} (hw : Cond.fieldLink own idx "AreaOrders" "HOW_MANY_ORDERS" "[I" ∈ gWd) (hd : decode cc pc = .ok (.getstatic idx, 3)) (kk : G E cc nL own ret d K (pc + 3) lv (.ref E.2.2.2 :: st) u) : G E cc nL own ret d K pc lv st u := by
  intro p l e s m args below meth c H locs ls hC hR
  exact va_gets hC.1 hC.2.1 hC.2.2.2.2.2.2.2.2.1 hR.2.2.1 hC.2.2.2.1 (hC.2.2.2.2.1 _ hw) (fun _ h => h) hd (kk p l e s m args below meth c H locs ls hC hR)
theorem jg_hmoA (j : Nat) {i : Int32} (hj : j < 7) (hi : i = nI j) (hd : decode cc pc = .ok (.iaload, 1)) (kk : G E cc nL own ret d K (pc + 1) lv (.int (hmo j) :: st) u) : G E cc nL own ret d K pc lv (.int i :: .ref E.2.2.2 :: st) u := by
  subst hi
  intro p l e s m args below meth c H locs ls hC hR
  exact va_ti hC.1 hC.2.1 hC.2.2.2.2.2.2.2.2.2 hR.2.2.1 (vp_in_nI hj (by decide)) (by rw [nI_clamp (by omega)]) hd (kk p l e s m args below meth c H locs ls hC hR)
/-! Math.max, System.arraycopy -/
def gMax (own : String) (idx : Nat) : Prop := Cond.methodLink own idx Lib.Math.max.name ∈ gWd ∧ Cond.static Lib.Math.max.name ∈ gWd ∧ Cond.initialized "java/lang/Math" ∈ gWd ∧ Cond.code Lib.Math.max.name Lib.Math.max.code 2 (some .int) ∈ gWd
theorem jg_max {idx : Nat} {x y z : Int32} (hw : gMax own idx) (hdd : 1 ≤ d) (hst : (st.map fun v => v.category).sum ≤ 20) (hz : (if x < y then y else x) = z) (hd : decode cc pc = .ok (.invokestatic idx, 3)) (kk : G E cc nL own ret d K (pc + 3) lv (.int z :: st) u) : G E cc nL own ret d K pc lv (.int y :: .int x :: st) u := by
  subst hz
  intro p l e s m args below meth c H locs ls hC hR
  exact va_mmax hC.1 hC.2.1 (hC.2.2.1.trans hR.2.2.2.1.symm) hC.2.2.2.1 (hC.2.2.2.2.1 _ hw.1) (hC.2.2.2.2.1 _ hw.2.1) (hC.2.2.2.2.1 _ hw.2.2.1) (hC.2.2.2.2.1 _ hw.2.2.2) (by show 1 ≤ d; omega) (by show _ ≤ 35 * d; omega) (Nat.le_refl 0) (Nat.le_refl 0) hd (kk p l e s m args below meth c H locs ls hC hR)
def gCpy (own : String) (idx : Nat) : Prop := Cond.methodLink own idx arraycopyName ∈ gWd ∧ Cond.native arraycopyName ∈ gWd ∧ Cond.static arraycopyName ∈ gWd ∧ Cond.initialized "java/lang/System" ∈ gWd
theorem jg_copy {idx k0 k1 n0 n1 : Nat} (sp dp n : Nat) {a b x : Int32} (hw : gCpy own idx) (hs0 : sTb[k0]? = some (.inr (.inl n0))) (hs1 : sTb[k1]? = some (.inr (.inl n1))) (ha : a = nI sp) (hb : b = nI dp) (hx : x = nI n) (h0 : sp + n ≤ n0) (h1 : dp + n ≤ n1) (hdd : 1 ≤ d) (hst : (st.map fun v => v.category).sum ≤ 16) (hd : decode cc pc = .ok (.invokestatic idx, 3)) (kk : G E cc nL own ret d K (pc + 3) lv st (sR u k1 (va_cpy (u k0) (u k1) sp dp n))) : G E cc nL own ret d K pc lv (.int x :: .int b :: .ref (E.2.1 k1) :: .int a :: .ref (E.2.1 k0) :: st) u := by
  have hn0 := sTb_small _ (List.mem_of_getElem? hs0) n0 rfl
  have hn1 := sTb_small _ (List.mem_of_getElem? hs1) n1 rfl
  subst ha; subst hb; subst hx
  intro p l e s m args below meth c H locs ls hC hR
  have c1 : (nI sp).toNatClampNeg = sp := nI_clamp (by omega)
  have c2 : (nI dp).toNatClampNeg = dp := nI_clamp (by omega)
  have c3 : (nI n).toNatClampNeg = n := nI_clamp (by omega)
  refine va_copyi (ty := .int) hC.1 hC.2.1 (hC.2.2.1.trans hR.2.2.2.1.symm) hC.2.2.2.1 (hC.2.2.2.2.1 _ hw.1) (hC.2.2.2.2.1 _ hw.2.1) (hC.2.2.2.2.1 _ hw.2.2.1) (hC.2.2.2.2.1 _ hw.2.2.2) hC.2.2.2.2.2.2.2.1 hR.1 hR.2.1 hR.2.2.1 k0 k1 0 0 (gW_get hs0) (gW_get hs1) rfl rfl rfl (nI_pos (by omega)) (nI_pos (by omega)) (nI_pos (by omega)) (by rw [c1, c3]; exact h0) (by rw [c2, c3]; exact h1) (fun _ _ => rfl) (by show 1 ≤ d; omega) ?_ hd (fun H1 locs1 hP hD hS => ?_)
  · have e9 : nativeFrameWords "java/lang/System" "arraycopy" 5 = 7 := by decide +kernel
    show _ + (nativeFrameWords "java/lang/System" "arraycopy" 5 + 11) ≤ 35 * d
    rw [e9]
    omega
  · rw [c1, c2, c3] at hP hD
    rw [gW_set (m' := sR u k1 (va_cpy (u k0) (u k1) sp dp n)) hs1 (by rw [sR_at]; rfl) (fun a h => sR_row h)] at hP hD
    exact kk p l e s m args below meth c H1 locs1 ls hC ⟨hP, hD, hS, hR.2.2.2⟩
/-! ends -/
theorem jg_iret {v : Int32} {ty : FieldType} (hn : narrow ty (.int v) = .int v) (hd : decode cc pc = .ok (.ireturn, 1)) (hk : K (some (.int v)) u) : G E cc nL own (some ty) d K pc lv [.int v] u := by
  intro p l e s m args below meth c H locs ls hC hR
  exact W.zret hC.1 hC.2.1 hC.2.2.2.2.2.1 hn (fun t ht hW => ⟨⟨_, u, rfl, hk, by rw [ht]; exact hR.1, va_K.moved hW.alike hC.2.2.2.2.2.2.2.1, hR.2.1⟩, hR.2.2.1.F ht⟩) hR.2.2.1.2.2 hd hC.2.2.2.2.2.2.1
theorem jg_lret {v : Int64} (hd : decode cc pc = .ok (.lreturn, 1)) (hk : K (some (.long v)) u) : G E cc nL own (some .long) d K pc lv [.long v] u := by
  intro p l e s m args below meth c H locs ls hC hR
  exact W.lret hC.1 hC.2.1 hC.2.2.2.2.2.1 (fun t ht hW => ⟨⟨_, u, rfl, hk, by rw [ht]; exact hR.1, va_K.moved hW.alike hC.2.2.2.2.2.2.2.1, hR.2.1⟩, hR.2.2.1.F ht⟩) hR.2.2.1.2.2 hd hC.2.2.2.2.2.2.1
theorem jg_vret (hd : decode cc pc = .ok (.return_, 1)) (hk : K none u) : G E cc nL own none d K pc lv [] u := by
  intro p l e s m args below meth c H locs ls hC hR
  exact W.vret hC.1 hC.2.1 hC.2.2.2.2.2.1 (fun t ht hW => ⟨⟨_, u, rfl, hk, by rw [ht]; exact hR.1, va_K.moved hW.alike hC.2.2.2.2.2.2.2.1, hR.2.1⟩, hR.2.2.1.F ht⟩) hR.2.2.1.2.2 hd hC.2.2.2.2.2.2.1
/-! calls -/
/-- what the tables say of a method y -/
def mE (y : MethodName) (bytes : ByteArray) (maxL : Nat) (rt : Option FieldType) (n : Nat) : Prop := Cond.initialized y.cls ∈ gWd ∧ Cond.code y bytes maxL rt ∈ gWd ∧ y.cls ≠ "java/lang/invoke/MethodHandle" ∧ y.cls ≠ "java/lang/invoke/VarHandle" ∧ (parseMethodDescriptor y.desc).map (fun d => d.parameters.length) = some n
def mEV (y : MethodName) (bytes : ByteArray) (maxL : Nat) (rt : Option FieldType) (n : Nat) : Prop := mE y bytes maxL rt n ∧ Cond.instanceMethod y ∈ gWd ∧ Cond.selects y.cls y y ∈ gWd
def mES (y : MethodName) (bytes : ByteArray) (maxL : Nat) (rt : Option FieldType) (n : Nat) : Prop := mE y bytes maxL rt n ∧ Cond.static y ∈ gWd
theorem gCallB {R : Room} {s : State} {args : Array Value} {idx : Nat} {y : MethodName} {bytes : ByteArray} {maxL n d2 : Nat} {rt : Option FieldType} (ht : ∀ w ∈ gWd, w.before args s = true) (hy : mE y bytes maxL rt n) (hl : Cond.methodLink own idx y ∈ gWd) (hR : d2 + 1 ≤ R.frames ∧ 8 + (maxL + 11) + 35 * d2 ≤ R.locals) : CallB R s args own idx y bytes maxL rt (.code y bytes maxL rt :: gWd) (gRm d2) 0 0 n := by
  refine callB_of (Ts := gWd) n ht (fun w hw => ?_) rfl rfl rfl (ht _ hy.1) (ht _ hl) hy.2.2 hR
  rcases List.mem_cons.mp hw with h | h
  · subst h
    exact ⟨hy.2.1, good_of_word (List.mem_filter.mp hy.2.1).2⟩
  · exact ⟨h, good_of_word (List.mem_filter.mp h).2⟩
theorem gBlind {E : gT} {As : List Value} {u2 : Mm} {sz : Nat} : FrameBlind (va_Pc As (fun U => U.heap.size = sz ∧ va_P E.1 vwCl (gW E u2) U.heap ∧ va_K E.1 vwCl (gY E) U ∧ va_D (fun _ => True) (gW E u2) ∧ gZ E sz U)) := by
  intro a U g mk q
  obtain ⟨q0, q1, qP, qK, qD, qZ⟩ := q
  exact ⟨q0, q1, qP, va_K.moved (u := U) (U := U.calling g mk a) (Vm.Alike.refl U.vm) qK, qD, gZ.moved (u := U) (U := U.calling g mk a) qZ rfl (Vm.Alike.refl U.vm)⟩
theorem gAfter {p : Program} {l : Launch} {e : Env} {s : State} {m : MethodId} {args : Array Value} {below : List Frame} {meth : Method} {c : Code} {H : Heap} {locs : List Loc} {ls : Array Slot} {st0 rest : List Value} {a : Array Value} {K2 : Option Value → Mm → Prop} (hC : gC E cc nL own ret p s m args meth c) (hR : gR E u nL lv s H locs ls)
    (hr : va_Run p l e (gRm d) s m args below meth c H locs 0 0 0 0 (F0 m pc ls st0) rest (gQ E K2 H.size a) (gA E H.size))
    (kk : ∀ (v : Option Value) (u2 : Mm), K2 v u2 → G E cc nL own ret d K (pc + 3) lv (v.toList ++ rest) u2) : W p l e (gRm d) s m args below meth c H locs 0 0 (MQ below (gQ E K s.heap.size) args s 0 0 (gA E s.heap.size)) (F0 m pc ls st0) := by
  intro T hT X
  obtain ⟨v, st₀, t, T', L, h0, X', hL, e1, e2, ⟨⟨v', u2, hv, hp, hP1, hK1, hD1⟩, hz, hk⟩, step⟩ := hr T hT X
  cases hv
  rw [h0] at hz hk
  have hS := hR.2.2.1
  have hS1 : va_S (gA E s.heap.size) s.heap T'.heap (locs ++ L) := ⟨Nat.le_trans hS.1 (by rw [e1]; exact hz), fun q h1 h2 => by
      rw [e1, hk q (Nat.lt_of_lt_of_le h1 hS.1) (fun z => h2 (gA_mono hS.1 q z))]
      exact hS.2.1 q h1 h2, fun q hq => by
      rcases List.mem_append.mp hq with h | h
      · exact hS.2.2 q h
      · exact gA_mono hS.1 _ (hL q h)⟩
  obtain ⟨t2, a1, b1⟩ := kk v u2 hp p l e s m args below meth c T'.heap (locs ++ L) ls hC ⟨by rw [e1]; exact hP1, gD_self hD1, hS1, hR.2.2.2⟩ T' rfl X'
  exact ⟨t2, step t2 a1, b1⟩
theorem jg_callV {idx k ci : Nat} {y : MethodName} {bytes : ByteArray} {maxL n d2 : Nat} {rt : Option FieldType} {As : List Value} {fs : List (Option Nat)} {K2 : Option Value → Mm → Prop} (hc : Con E y bytes maxL rt d2 (.ref (E.2.1 k) :: As) u K2) (hy : mEV y bytes maxL rt n) (hl : Cond.methodLink own idx y ∈ gWd) (hs : sTb[k]? = some (.inl (ci, fs))) (hci : (vwCl[ci]?).map (fun q => q.1) = some y.cls) (hn : As.length = n) (hdd : d2 + 1 ≤ d) (hml : maxL ≤ 16) {st0 : List Value} (hst : st0 = As.reverse ++ .ref (E.2.1 k) :: st) (hcat : (st.map fun v => v.category).sum ≤ 8) (hd : decode cc pc = .ok (.invokevirtual idx, 3)) (kk : ∀ (v : Option Value) (u2 : Mm), K2 v u2 → G E cc nL own ret d K (pc + 3) lv (v.toList ++ st) u2) : G E cc nL own ret d K pc lv st0 u := by
  intro p l e s m args below meth c H locs ls hC hR
  obtain ⟨q, hq, hq1⟩ := Option.map_eq_some_iff.mp hci
  have hb := gCallB (R := gRm d) (own := own) (idx := idx) (d2 := d2) hC.2.2.2.2.1 hy.1 hl ⟨by show d2 + 1 ≤ d; omega, by show _ ≤ 35 * d; omega⟩
  refine gAfter hC hR (a := (Value.ref (E.2.1 k) :: As).toArray) (va_runV (Ts := gWd) (C := y.cls) (As := As) (rest := st) (b := E.2.1 k) ⟨hC.1, hC.2.1, hC.2.2.1, hC.2.2.2.1, hC.2.2.2.2.1⟩ (hc l H.size) ⟨hb, hC.2.2.2.2.1 _ hy.2.1, hC.2.2.2.2.1 _ hy.2.2⟩ ⟨gBlind, ?_, fun U hU hW => ⟨rfl, by rw [hU], by rw [hU]; exact hR.1, va_K.moved hW.alike hC.2.2.2.2.2.2.2.1, hR.2.1.weaken (fun _ _ _ _ => trivial), gZ.at hC.2.2.2.2.2.2.2.2 hR.2.2.1 hU hW.alike⟩⟩ rfl hn hR.2.2.2.1 hst (lv_room hcat) hd ⟨Nat.le_refl 0, Nat.le_refl 0⟩) kk
  have h9 := va_recv hC.2.2.2.2.2.2.2.1 hR.1 hq (gW_get hs)
  rw [hq1] at h9
  exact h9
theorem jg_callS {idx : Nat} {y : MethodName} {bytes : ByteArray} {maxL n d2 : Nat} {rt : Option FieldType} {As : List Value} {K2 : Option Value → Mm → Prop} (hc : Con E y bytes maxL rt d2 As u K2) (hy : mES y bytes maxL rt n) (hl : Cond.methodLink own idx y ∈ gWd) (hn : As.length = n) (hdd : d2 + 1 ≤ d) (hml : maxL ≤ 16) {st0 : List Value} (hst : st0 = As.reverse ++ st) (hcat : (st.map fun v => v.category).sum ≤ 8) (hd : decode cc pc = .ok (.invokestatic idx, 3)) (kk : ∀ (v : Option Value) (u2 : Mm), K2 v u2 → G E cc nL own ret d K (pc + 3) lv (v.toList ++ st) u2) : G E cc nL own ret d K pc lv st0 u := by
  intro p l e s m args below meth c H locs ls hC hR
  have hb := gCallB (R := gRm d) (own := own) (idx := idx) (d2 := d2) hC.2.2.2.2.1 hy.1 hl ⟨by show d2 + 1 ≤ d; omega, by show _ ≤ 35 * d; omega⟩
  exact gAfter hC hR (a := As.toArray) (va_runS (Ts := gWd) (As := As) (rest := st) ⟨hC.1, hC.2.1, hC.2.2.1, hC.2.2.2.1, hC.2.2.2.2.1⟩ (hc l H.size) ⟨hb, hC.2.2.2.2.1 _ hy.2⟩ ⟨gBlind, fun U hU hW => ⟨rfl, by rw [hU], by rw [hU]; exact hR.1, va_K.moved hW.alike hC.2.2.2.2.2.2.2.1, hR.2.1.weaken (fun _ _ _ _ => trivial), gZ.at hC.2.2.2.2.2.2.2.2 hR.2.2.1 hU hW.alike⟩⟩ rfl hn hR.2.2.2.1 hst (lv_room hcat) hd ⟨Nat.le_refl 0, Nat.le_refl 0⟩) kk
/-! ends by their kinds -/
def kI (P : Int32 → Mm → Prop) : Option Value → Mm → Prop := fun v u => ∃ r : Int32, v = some (.int r) ∧ P r u
def kL (P : Int64 → Mm → Prop) : Option Value → Mm → Prop := fun v u => ∃ r : Int64, v = some (.long r) ∧ P r u
def kV (P : Mm → Prop) : Option Value → Mm → Prop := fun v u => v = none ∧ P u
theorem kk_I {P : Int32 → Mm → Prop} (kk : ∀ (r : Int32) (u2 : Mm), P r u2 → G E cc nL own ret d K (pc + 3) lv (.int r :: st) u2) : ∀ (v : Option Value) (u2 : Mm), kI P v u2 → G E cc nL own ret d K (pc + 3) lv (v.toList ++ st) u2 := by
  rintro v u2 ⟨r, rfl, h⟩
  exact kk r u2 h
theorem kk_L {P : Int64 → Mm → Prop} (kk : ∀ (r : Int64) (u2 : Mm), P r u2 → G E cc nL own ret d K (pc + 3) lv (.long r :: st) u2) : ∀ (v : Option Value) (u2 : Mm), kL P v u2 → G E cc nL own ret d K (pc + 3) lv (v.toList ++ st) u2 := by
  rintro v u2 ⟨r, rfl, h⟩
  exact kk r u2 h
theorem kk_V {P : Mm → Prop} (kk : ∀ (u2 : Mm), P u2 → G E cc nL own ret d K (pc + 3) lv st u2) : ∀ (v : Option Value) (u2 : Mm), kV P v u2 → G E cc nL own ret d K (pc + 3) lv (v.toList ++ st) u2 := by
  rintro v u2 ⟨rfl, h⟩
  exact kk u2 h
end JG
end
section
theorem gw_all {ws : List Cond} (ps : List Nat) (hp : ws = ps.filterMap (fun i => lw_tbl[i]?)) (h : ws.all goodWord = true) : ∀ w ∈ ws, w ∈ gWd := by
  intro w hw
  have hg := List.all_eq_true.mp h w hw
  rw [hp] at hw
  obtain ⟨i, -, hi⟩ := List.mem_filterMap.mp hw
  exact gw_at i hi hg
theorem uwX0 : ∀ w ∈ u_ws RX0 TX0 12, w ∈ gWd := gw_all [117, 119, 121, 123, 125, 127, 129, 131, 133, 135, 137, 139] (by decide +kernel) (by decide +kernel)
theorem uwX1 : ∀ w ∈ u_ws RX1 TX1 5, w ∈ gWd := gw_all [159, 161, 163, 165, 167] (by decide +kernel) (by decide +kernel)
theorem uwX2 : ∀ w ∈ u_ws RX2 TX2 4, w ∈ gWd := gw_all [184, 186, 188, 190] (by decide +kernel) (by decide +kernel)
theorem uwX3 : ∀ w ∈ u_ws RX3 TX3 10, w ∈ gWd := gw_all [203, 205, 207, 209, 211, 213, 215, 217, 219, 221] (by decide +kernel) (by decide +kernel)
theorem uwX4 : ∀ w ∈ u_ws RX4 TX4 34, w ∈ gWd := gw_all [624, 626, 628, 630, 632, 634, 636, 638, 640, 642, 644, 646, 648, 650, 652, 654, 656, 658, 660, 662, 664, 666, 668, 670, 672, 674, 676, 678, 680, 682, 684, 686, 688, 690] (by decide +kernel) (by decide +kernel)
theorem fk_X0_9 : gF RX0 9 0 1 := ⟨(RX0, TX0, 12), rfl, by decide, gw_at 90 (by decide +kernel) rfl, uwX0⟩
theorem fk_X0_15 : gF RX0 15 0 2 := ⟨(RX0, TX0, 12), rfl, by decide, gw_at 93 (by decide +kernel) rfl, uwX0⟩
theorem fk_X0_18 : gF RX0 18 0 3 := ⟨(RX0, TX0, 12), rfl, by decide, gw_at 96 (by decide +kernel) rfl, uwX0⟩
theorem fk_X0_21 : gF RX0 21 0 4 := ⟨(RX0, TX0, 12), rfl, by decide, gw_at 99 (by decide +kernel) rfl, uwX0⟩
theorem fk_X0_26 : gF RX0 26 0 5 := ⟨(RX0, TX0, 12), rfl, by decide, gw_at 102 (by decide +kernel) rfl, uwX0⟩
theorem fk_X0_29 : gF RX0 29 0 6 := ⟨(RX0, TX0, 12), rfl, by decide, gw_at 105 (by decide +kernel) rfl, uwX0⟩
theorem fk_X0_32 : gF RX0 32 0 7 := ⟨(RX0, TX0, 12), rfl, by decide, gw_at 107 (by decide +kernel) rfl, uwX0⟩
theorem fk_X0_35 : gF RX0 35 0 8 := ⟨(RX0, TX0, 12), rfl, by decide, gw_at 109 (by decide +kernel) rfl, uwX0⟩
theorem fk_X0_38 : gF RX0 38 0 9 := ⟨(RX0, TX0, 12), rfl, by decide, gw_at 111 (by decide +kernel) rfl, uwX0⟩
theorem fk_X0_41 : gF RX0 41 0 0 := ⟨(RX0, TX0, 12), rfl, by decide, gw_at 87 (by decide +kernel) rfl, uwX0⟩
theorem fp_X0_41 : gP RX0 41 0 0 .int := ⟨(RX0, TX0, 12), rfl, by decide, gw_at 87 (by decide +kernel) rfl, uwX0, ⟨tyX0, tyX0_ok⟩, nmX0, rfl, tyX0_ok 0 (by decide)⟩
theorem fk_X0_61 : gF RX0 61 0 10 := ⟨(RX0, TX0, 12), rfl, by decide, gw_at 114 (by decide +kernel) rfl, uwX0⟩
theorem fp_X0_61 : gP RX0 61 0 10 .int := ⟨(RX0, TX0, 12), rfl, by decide, gw_at 114 (by decide +kernel) rfl, uwX0, ⟨tyX0, tyX0_ok⟩, nmX0, rfl, tyX0_ok 10 (by decide)⟩
theorem fk_X0_64 : gF RX0 64 0 11 := ⟨(RX0, TX0, 12), rfl, by decide, gw_at 116 (by decide +kernel) rfl, uwX0⟩
theorem fp_X0_64 : gP RX0 64 0 11 .int := ⟨(RX0, TX0, 12), rfl, by decide, gw_at 116 (by decide +kernel) rfl, uwX0, ⟨tyX0, tyX0_ok⟩, nmX0, rfl, tyX0_ok 11 (by decide)⟩
theorem fk_X1_12 : gF RX1 12 1 0 := ⟨(RX1, TX1, 5), rfl, by decide, gw_at 151 (by decide +kernel) rfl, uwX1⟩
theorem fk_X1_18 : gF RX1 18 1 1 := ⟨(RX1, TX1, 5), rfl, by decide, gw_at 153 (by decide +kernel) rfl, uwX1⟩
theorem fk_X1_28 : gF RX1 28 1 2 := ⟨(RX1, TX1, 5), rfl, by decide, gw_at 154 (by decide +kernel) rfl, uwX1⟩
theorem fp_X1_28 : gP RX1 28 1 2 .int := ⟨(RX1, TX1, 5), rfl, by decide, gw_at 154 (by decide +kernel) rfl, uwX1, ⟨tyX1, tyX1_ok⟩, nmX1, rfl, tyX1_ok 2 (by decide)⟩
theorem fk_X1_32 : gF RX1 32 1 3 := ⟨(RX1, TX1, 5), rfl, by decide, gw_at 155 (by decide +kernel) rfl, uwX1⟩
theorem fp_X1_32 : gP RX1 32 1 3 .int := ⟨(RX1, TX1, 5), rfl, by decide, gw_at 155 (by decide +kernel) rfl, uwX1, ⟨tyX1, tyX1_ok⟩, nmX1, rfl, tyX1_ok 3 (by decide)⟩
theorem fk_X1_35 : gF RX1 35 0 0 := ⟨(RX0, TX0, 12), rfl, by decide, gw_at 88 (by decide +kernel) rfl, uwX0⟩
theorem fp_X1_35 : gP RX1 35 0 0 .int := ⟨(RX0, TX0, 12), rfl, by decide, gw_at 88 (by decide +kernel) rfl, uwX0, ⟨tyX0, tyX0_ok⟩, nmX0, rfl, tyX0_ok 0 (by decide)⟩
theorem fk_X1_60 : gF RX1 60 1 4 := ⟨(RX1, TX1, 5), rfl, by decide, gw_at 158 (by decide +kernel) rfl, uwX1⟩
theorem fp_X1_60 : gP RX1 60 1 4 .int := ⟨(RX1, TX1, 5), rfl, by decide, gw_at 158 (by decide +kernel) rfl, uwX1, ⟨tyX1, tyX1_ok⟩, nmX1, rfl, tyX1_ok 4 (by decide)⟩
theorem fk_X1_63 : gF RX1 63 0 1 := ⟨(RX0, TX0, 12), rfl, by decide, gw_at 92 (by decide +kernel) rfl, uwX0⟩
theorem fk_X1_66 : gF RX1 66 0 2 := ⟨(RX0, TX0, 12), rfl, by decide, gw_at 95 (by decide +kernel) rfl, uwX0⟩
theorem fk_X1_69 : gF RX1 69 0 3 := ⟨(RX0, TX0, 12), rfl, by decide, gw_at 98 (by decide +kernel) rfl, uwX0⟩
theorem fk_X1_72 : gF RX1 72 0 4 := ⟨(RX0, TX0, 12), rfl, by decide, gw_at 101 (by decide +kernel) rfl, uwX0⟩
theorem fk_X1_75 : gF RX1 75 0 5 := ⟨(RX0, TX0, 12), rfl, by decide, gw_at 104 (by decide +kernel) rfl, uwX0⟩
theorem fk_X2_9 : gF RX2 9 2 3 := ⟨(RX2, TX2, 4), rfl, by decide, gw_at 182 (by decide +kernel) rfl, uwX2⟩
theorem fk_X2_15 : gF RX2 15 2 0 := ⟨(RX2, TX2, 4), rfl, by decide, gw_at 177 (by decide +kernel) rfl, uwX2⟩
theorem fp_X2_15 : gP RX2 15 2 0 .boolean := ⟨(RX2, TX2, 4), rfl, by decide, gw_at 177 (by decide +kernel) rfl, uwX2, ⟨tyX2, tyX2_ok⟩, nmX2, rfl, tyX2_ok 0 (by decide)⟩
theorem fk_X2_19 : gF RX2 19 2 1 := ⟨(RX2, TX2, 4), rfl, by decide, gw_at 179 (by decide +kernel) rfl, uwX2⟩
theorem fp_X2_19 : gP RX2 19 2 1 .int := ⟨(RX2, TX2, 4), rfl, by decide, gw_at 179 (by decide +kernel) rfl, uwX2, ⟨tyX2, tyX2_ok⟩, nmX2, rfl, tyX2_ok 1 (by decide)⟩
theorem fk_X2_23 : gF RX2 23 2 2 := ⟨(RX2, TX2, 4), rfl, by decide, gw_at 181 (by decide +kernel) rfl, uwX2⟩
theorem fp_X2_23 : gP RX2 23 2 2 .int := ⟨(RX2, TX2, 4), rfl, by decide, gw_at 181 (by decide +kernel) rfl, uwX2, ⟨tyX2, tyX2_ok⟩, nmX2, rfl, tyX2_ok 2 (by decide)⟩
theorem fk_X3_14 : gF RX3 14 3 0 := ⟨(RX3, TX3, 10), rfl, by decide, gw_at 193 (by decide +kernel) rfl, uwX3⟩
theorem fk_X3_18 : gF RX3 18 3 1 := ⟨(RX3, TX3, 10), rfl, by decide, gw_at 194 (by decide +kernel) rfl, uwX3⟩
theorem fk_X3_24 : gF RX3 24 3 2 := ⟨(RX3, TX3, 10), rfl, by decide, gw_at 195 (by decide +kernel) rfl, uwX3⟩
theorem fk_X3_30 : gF RX3 30 3 3 := ⟨(RX3, TX3, 10), rfl, by decide, gw_at 196 (by decide +kernel) rfl, uwX3⟩
theorem fk_X3_34 : gF RX3 34 3 4 := ⟨(RX3, TX3, 10), rfl, by decide, gw_at 197 (by decide +kernel) rfl, uwX3⟩
theorem fk_X3_38 : gF RX3 38 3 5 := ⟨(RX3, TX3, 10), rfl, by decide, gw_at 198 (by decide +kernel) rfl, uwX3⟩
theorem fk_X3_41 : gF RX3 41 3 6 := ⟨(RX3, TX3, 10), rfl, by decide, gw_at 199 (by decide +kernel) rfl, uwX3⟩
theorem fk_X3_45 : gF RX3 45 3 9 := ⟨(RX3, TX3, 10), rfl, by decide, gw_at 202 (by decide +kernel) rfl, uwX3⟩
theorem fp_X3_45 : gP RX3 45 3 9 .int := ⟨(RX3, TX3, 10), rfl, by decide, gw_at 202 (by decide +kernel) rfl, uwX3, ⟨tyX3, tyX3_ok⟩, nmX3, rfl, tyX3_ok 9 (by decide)⟩
theorem fk_X3_67 : gF RX3 67 2 3 := ⟨(RX2, TX2, 4), rfl, by decide, gw_at 183 (by decide +kernel) rfl, uwX2⟩
theorem fk_X3_74 : gF RX3 74 1 3 := ⟨(RX1, TX1, 5), rfl, by decide, gw_at 156 (by decide +kernel) rfl, uwX1⟩
theorem fp_X3_74 : gP RX3 74 1 3 .int := ⟨(RX1, TX1, 5), rfl, by decide, gw_at 156 (by decide +kernel) rfl, uwX1, ⟨tyX1, tyX1_ok⟩, nmX1, rfl, tyX1_ok 3 (by decide)⟩
theorem fk_X3_77 : gF RX3 77 1 0 := ⟨(RX1, TX1, 5), rfl, by decide, gw_at 152 (by decide +kernel) rfl, uwX1⟩
theorem fk_X3_84 : gF RX3 84 3 7 := ⟨(RX3, TX3, 10), rfl, by decide, gw_at 200 (by decide +kernel) rfl, uwX3⟩
theorem fp_X3_84 : gP RX3 84 3 7 .int := ⟨(RX3, TX3, 10), rfl, by decide, gw_at 200 (by decide +kernel) rfl, uwX3, ⟨tyX3, tyX3_ok⟩, nmX3, rfl, tyX3_ok 7 (by decide)⟩
theorem fk_X3_87 : gF RX3 87 0 0 := ⟨(RX0, TX0, 12), rfl, by decide, gw_at 89 (by decide +kernel) rfl, uwX0⟩
theorem fp_X3_87 : gP RX3 87 0 0 .int := ⟨(RX0, TX0, 12), rfl, by decide, gw_at 89 (by decide +kernel) rfl, uwX0, ⟨tyX0, tyX0_ok⟩, nmX0, rfl, tyX0_ok 0 (by decide)⟩
theorem fk_X3_93 : gF RX3 93 0 1 := ⟨(RX0, TX0, 12), rfl, by decide, gw_at 91 (by decide +kernel) rfl, uwX0⟩
theorem fk_X3_96 : gF RX3 96 0 2 := ⟨(RX0, TX0, 12), rfl, by decide, gw_at 94 (by decide +kernel) rfl, uwX0⟩
theorem fk_X3_99 : gF RX3 99 0 3 := ⟨(RX0, TX0, 12), rfl, by decide, gw_at 97 (by decide +kernel) rfl, uwX0⟩
theorem fk_X3_102 : gF RX3 102 0 7 := ⟨(RX0, TX0, 12), rfl, by decide, gw_at 108 (by decide +kernel) rfl, uwX0⟩
theorem fk_X3_105 : gF RX3 105 0 8 := ⟨(RX0, TX0, 12), rfl, by decide, gw_at 110 (by decide +kernel) rfl, uwX0⟩
theorem fk_X3_108 : gF RX3 108 0 9 := ⟨(RX0, TX0, 12), rfl, by decide, gw_at 112 (by decide +kernel) rfl, uwX0⟩
theorem fk_X3_123 : gF RX3 123 0 4 := ⟨(RX0, TX0, 12), rfl, by decide, gw_at 100 (by decide +kernel) rfl, uwX0⟩
theorem fk_X3_126 : gF RX3 126 0 6 := ⟨(RX0, TX0, 12), rfl, by decide, gw_at 106 (by decide +kernel) rfl, uwX0⟩
theorem fk_X3_149 : gF RX3 149 0 5 := ⟨(RX0, TX0, 12), rfl, by decide, gw_at 103 (by decide +kernel) rfl, uwX0⟩
theorem fk_X3_152 : gF RX3 152 1 4 := ⟨(RX1, TX1, 5), rfl, by decide, gw_at 157 (by decide +kernel) rfl, uwX1⟩
theorem fp_X3_152 : gP RX3 152 1 4 .int := ⟨(RX1, TX1, 5), rfl, by decide, gw_at 157 (by decide +kernel) rfl, uwX1, ⟨tyX1, tyX1_ok⟩, nmX1, rfl, tyX1_ok 4 (by decide)⟩
theorem fk_X3_155 : gF RX3 155 0 10 := ⟨(RX0, TX0, 12), rfl, by decide, gw_at 113 (by decide +kernel) rfl, uwX0⟩
theorem fp_X3_155 : gP RX3 155 0 10 .int := ⟨(RX0, TX0, 12), rfl, by decide, gw_at 113 (by decide +kernel) rfl, uwX0, ⟨tyX0, tyX0_ok⟩, nmX0, rfl, tyX0_ok 10 (by decide)⟩
theorem fk_X3_158 : gF RX3 158 0 11 := ⟨(RX0, TX0, 12), rfl, by decide, gw_at 115 (by decide +kernel) rfl, uwX0⟩
theorem fp_X3_158 : gP RX3 158 0 11 .int := ⟨(RX0, TX0, 12), rfl, by decide, gw_at 115 (by decide +kernel) rfl, uwX0, ⟨tyX0, tyX0_ok⟩, nmX0, rfl, tyX0_ok 11 (by decide)⟩
theorem hk_X3_209 : Cond.fieldLink RX3 209 "AreaOrders" "HOW_MANY_ORDERS" "[I" ∈ gWd := gw_at 453 (by decide +kernel) rfl
theorem fk_X3_222 : gF RX3 222 2 0 := ⟨(RX2, TX2, 4), rfl, by decide, gw_at 178 (by decide +kernel) rfl, uwX2⟩
theorem fp_X3_222 : gP RX3 222 2 0 .boolean := ⟨(RX2, TX2, 4), rfl, by decide, gw_at 178 (by decide +kernel) rfl, uwX2, ⟨tyX2, tyX2_ok⟩, nmX2, rfl, tyX2_ok 0 (by decide)⟩
theorem fk_X3_229 : gF RX3 229 2 1 := ⟨(RX2, TX2, 4), rfl, by decide, gw_at 180 (by decide +kernel) rfl, uwX2⟩
theorem fp_X3_229 : gP RX3 229 2 1 .int := ⟨(RX2, TX2, 4), rfl, by decide, gw_at 180 (by decide +kernel) rfl, uwX2, ⟨tyX2, tyX2_ok⟩, nmX2, rfl, tyX2_ok 1 (by decide)⟩
theorem fk_X3_256 : gF RX3 256 3 8 := ⟨(RX3, TX3, 10), rfl, by decide, gw_at 201 (by decide +kernel) rfl, uwX3⟩
theorem fp_X3_256 : gP RX3 256 3 8 .int := ⟨(RX3, TX3, 10), rfl, by decide, gw_at 201 (by decide +kernel) rfl, uwX3, ⟨tyX3, tyX3_ok⟩, nmX3, rfl, tyX3_ok 8 (by decide)⟩
theorem fk_X4_9 : gF RX4 9 4 2 := ⟨(RX4, TX4, 34), rfl, by decide, gw_at 592 (by decide +kernel) rfl, uwX4⟩
theorem fk_X4_13 : gF RX4 13 4 3 := ⟨(RX4, TX4, 34), rfl, by decide, gw_at 593 (by decide +kernel) rfl, uwX4⟩
theorem fk_X4_16 : gF RX4 16 4 4 := ⟨(RX4, TX4, 34), rfl, by decide, gw_at 594 (by decide +kernel) rfl, uwX4⟩
theorem fk_X4_19 : gF RX4 19 4 7 := ⟨(RX4, TX4, 34), rfl, by decide, gw_at 597 (by decide +kernel) rfl, uwX4⟩
theorem fk_X4_22 : gF RX4 22 4 8 := ⟨(RX4, TX4, 34), rfl, by decide, gw_at 598 (by decide +kernel) rfl, uwX4⟩
theorem fk_X4_25 : gF RX4 25 4 9 := ⟨(RX4, TX4, 34), rfl, by decide, gw_at 599 (by decide +kernel) rfl, uwX4⟩
theorem fk_X4_28 : gF RX4 28 4 10 := ⟨(RX4, TX4, 34), rfl, by decide, gw_at 600 (by decide +kernel) rfl, uwX4⟩
theorem fk_X4_31 : gF RX4 31 4 11 := ⟨(RX4, TX4, 34), rfl, by decide, gw_at 601 (by decide +kernel) rfl, uwX4⟩
theorem fk_X4_34 : gF RX4 34 4 14 := ⟨(RX4, TX4, 34), rfl, by decide, gw_at 604 (by decide +kernel) rfl, uwX4⟩
theorem fk_X4_37 : gF RX4 37 4 15 := ⟨(RX4, TX4, 34), rfl, by decide, gw_at 605 (by decide +kernel) rfl, uwX4⟩
theorem fk_X4_40 : gF RX4 40 4 16 := ⟨(RX4, TX4, 34), rfl, by decide, gw_at 606 (by decide +kernel) rfl, uwX4⟩
theorem fk_X4_43 : gF RX4 43 4 17 := ⟨(RX4, TX4, 34), rfl, by decide, gw_at 607 (by decide +kernel) rfl, uwX4⟩
theorem fk_X4_46 : gF RX4 46 4 18 := ⟨(RX4, TX4, 34), rfl, by decide, gw_at 608 (by decide +kernel) rfl, uwX4⟩
theorem fk_X4_49 : gF RX4 49 4 19 := ⟨(RX4, TX4, 34), rfl, by decide, gw_at 609 (by decide +kernel) rfl, uwX4⟩
theorem fk_X4_52 : gF RX4 52 4 20 := ⟨(RX4, TX4, 34), rfl, by decide, gw_at 610 (by decide +kernel) rfl, uwX4⟩
theorem fk_X4_55 : gF RX4 55 4 21 := ⟨(RX4, TX4, 34), rfl, by decide, gw_at 611 (by decide +kernel) rfl, uwX4⟩
theorem fk_X4_58 : gF RX4 58 4 24 := ⟨(RX4, TX4, 34), rfl, by decide, gw_at 614 (by decide +kernel) rfl, uwX4⟩
theorem fk_X4_61 : gF RX4 61 4 25 := ⟨(RX4, TX4, 34), rfl, by decide, gw_at 615 (by decide +kernel) rfl, uwX4⟩
theorem fk_X4_64 : gF RX4 64 4 26 := ⟨(RX4, TX4, 34), rfl, by decide, gw_at 616 (by decide +kernel) rfl, uwX4⟩
theorem fk_X4_67 : gF RX4 67 4 27 := ⟨(RX4, TX4, 34), rfl, by decide, gw_at 617 (by decide +kernel) rfl, uwX4⟩
theorem fk_X4_70 : gF RX4 70 4 32 := ⟨(RX4, TX4, 34), rfl, by decide, gw_at 622 (by decide +kernel) rfl, uwX4⟩
theorem fk_X4_73 : gF RX4 73 4 33 := ⟨(RX4, TX4, 34), rfl, by decide, gw_at 623 (by decide +kernel) rfl, uwX4⟩
theorem fk_X4_76 : gF RX4 76 4 0 := ⟨(RX4, TX4, 34), rfl, by decide, gw_at 590 (by decide +kernel) rfl, uwX4⟩
theorem fp_X4_76 : gP RX4 76 4 0 .int := ⟨(RX4, TX4, 34), rfl, by decide, gw_at 590 (by decide +kernel) rfl, uwX4, ⟨tyX4, tyX4_ok⟩, nmX4, rfl, tyX4_ok 0 (by decide)⟩
theorem fk_X4_86 : gF RX4 86 4 5 := ⟨(RX4, TX4, 34), rfl, by decide, gw_at 595 (by decide +kernel) rfl, uwX4⟩
theorem fp_X4_86 : gP RX4 86 4 5 .int := ⟨(RX4, TX4, 34), rfl, by decide, gw_at 595 (by decide +kernel) rfl, uwX4, ⟨tyX4, tyX4_ok⟩, nmX4, rfl, tyX4_ok 5 (by decide)⟩
theorem fk_X4_89 : gF RX4 89 4 12 := ⟨(RX4, TX4, 34), rfl, by decide, gw_at 602 (by decide +kernel) rfl, uwX4⟩
theorem fp_X4_89 : gP RX4 89 4 12 .int := ⟨(RX4, TX4, 34), rfl, by decide, gw_at 602 (by decide +kernel) rfl, uwX4, ⟨tyX4, tyX4_ok⟩, nmX4, rfl, tyX4_ok 12 (by decide)⟩
theorem fk_X4_110 : gF RX4 110 4 13 := ⟨(RX4, TX4, 34), rfl, by decide, gw_at 603 (by decide +kernel) rfl, uwX4⟩
theorem fp_X4_110 : gP RX4 110 4 13 .int := ⟨(RX4, TX4, 34), rfl, by decide, gw_at 603 (by decide +kernel) rfl, uwX4, ⟨tyX4, tyX4_ok⟩, nmX4, rfl, tyX4_ok 13 (by decide)⟩
theorem fk_X4_113 : gF RX4 113 4 31 := ⟨(RX4, TX4, 34), rfl, by decide, gw_at 621 (by decide +kernel) rfl, uwX4⟩
theorem fp_X4_113 : gP RX4 113 4 31 .int := ⟨(RX4, TX4, 34), rfl, by decide, gw_at 621 (by decide +kernel) rfl, uwX4, ⟨tyX4, tyX4_ok⟩, nmX4, rfl, tyX4_ok 31 (by decide)⟩
theorem fk_X4_129 : gF RX4 129 4 6 := ⟨(RX4, TX4, 34), rfl, by decide, gw_at 596 (by decide +kernel) rfl, uwX4⟩
theorem fp_X4_129 : gP RX4 129 4 6 .int := ⟨(RX4, TX4, 34), rfl, by decide, gw_at 596 (by decide +kernel) rfl, uwX4, ⟨tyX4, tyX4_ok⟩, nmX4, rfl, tyX4_ok 6 (by decide)⟩
theorem fk_X4_136 : gF RX4 136 4 22 := ⟨(RX4, TX4, 34), rfl, by decide, gw_at 612 (by decide +kernel) rfl, uwX4⟩
theorem fp_X4_136 : gP RX4 136 4 22 .int := ⟨(RX4, TX4, 34), rfl, by decide, gw_at 612 (by decide +kernel) rfl, uwX4, ⟨tyX4, tyX4_ok⟩, nmX4, rfl, tyX4_ok 22 (by decide)⟩
theorem fk_X4_139 : gF RX4 139 4 23 := ⟨(RX4, TX4, 34), rfl, by decide, gw_at 613 (by decide +kernel) rfl, uwX4⟩
theorem fp_X4_139 : gP RX4 139 4 23 .int := ⟨(RX4, TX4, 34), rfl, by decide, gw_at 613 (by decide +kernel) rfl, uwX4, ⟨tyX4, tyX4_ok⟩, nmX4, rfl, tyX4_ok 23 (by decide)⟩
theorem fk_X4_217 : gF RX4 217 4 28 := ⟨(RX4, TX4, 34), rfl, by decide, gw_at 618 (by decide +kernel) rfl, uwX4⟩
theorem fp_X4_217 : gP RX4 217 4 28 .int := ⟨(RX4, TX4, 34), rfl, by decide, gw_at 618 (by decide +kernel) rfl, uwX4, ⟨tyX4, tyX4_ok⟩, nmX4, rfl, tyX4_ok 28 (by decide)⟩
theorem fk_X4_220 : gF RX4 220 4 29 := ⟨(RX4, TX4, 34), rfl, by decide, gw_at 619 (by decide +kernel) rfl, uwX4⟩
theorem fp_X4_220 : gP RX4 220 4 29 .int := ⟨(RX4, TX4, 34), rfl, by decide, gw_at 619 (by decide +kernel) rfl, uwX4, ⟨tyX4, tyX4_ok⟩, nmX4, rfl, tyX4_ok 29 (by decide)⟩
theorem fk_X4_223 : gF RX4 223 4 30 := ⟨(RX4, TX4, 34), rfl, by decide, gw_at 620 (by decide +kernel) rfl, uwX4⟩
theorem fp_X4_223 : gP RX4 223 4 30 .int := ⟨(RX4, TX4, 34), rfl, by decide, gw_at 620 (by decide +kernel) rfl, uwX4, ⟨tyX4, tyX4_ok⟩, nmX4, rfl, tyX4_ok 30 (by decide)⟩
theorem fk_X4_245 : gF RX4 245 4 1 := ⟨(RX4, TX4, 34), rfl, by decide, gw_at 591 (by decide +kernel) rfl, uwX4⟩
theorem fp_X4_245 : gP RX4 245 4 1 .int := ⟨(RX4, TX4, 34), rfl, by decide, gw_at 591 (by decide +kernel) rfl, uwX4, ⟨tyX4, tyX4_ok⟩, nmX4, rfl, tyX4_ok 1 (by decide)⟩
theorem me_J6_bitCount_0f7a4 : mES yJ6_bitCount_0f7a4 cJ6_bitCount_0f7a4 1 (some .int) 1 := ⟨⟨gw_at 70 (by decide +kernel) rfl, gw_at 395 (by decide +kernel) rfl, by decide +kernel, by decide +kernel, by decide +kernel⟩, gw_at 394 (by decide +kernel) rfl⟩
theorem me_J9_max_7cf53 : mES yJ9_max_7cf53 cJ9_max_7cf53 2 (some .int) 2 := ⟨⟨gw_at 69 (by decide +kernel) rfl, gw_at 304 (by decide +kernel) rfl, by decide +kernel, by decide +kernel, by decide +kernel⟩, gw_at 303 (by decide +kernel) rfl⟩
theorem me_X0_aboveOf : mEV yX0_aboveOf cX0_aboveOf 4 (some .int) 1 := ⟨⟨gw_at 64 (by decide +kernel) rfl, gw_at 324 (by decide +kernel) rfl, by decide +kernel, by decide +kernel, by decide +kernel⟩, gw_at 322 (by decide +kernel) rfl, gw_at 323 (by decide +kernel) rfl⟩
theorem me_X0_becomeLike : mEV yX0_becomeLike cX0_becomeLike 2 none 1 := ⟨⟨gw_at 64 (by decide +kernel) rfl, gw_at 280 (by decide +kernel) rfl, by decide +kernel, by decide +kernel, by decide +kernel⟩, gw_at 278 (by decide +kernel) rfl, gw_at 279 (by decide +kernel) rfl⟩
theorem me_X0_begin : mEV yX0_begin cX0_begin 7 none 2 := ⟨⟨gw_at 64 (by decide +kernel) rfl, gw_at 301 (by decide +kernel) rfl, by decide +kernel, by decide +kernel, by decide +kernel⟩, gw_at 300 (by decide +kernel) rfl, gw_at 10 (by decide +kernel) rfl⟩
theorem me_X0_criticalOnes : mEV yX0_criticalOnes cX0_criticalOnes 3 (some .int) 0 := ⟨⟨gw_at 64 (by decide +kernel) rfl, gw_at 402 (by decide +kernel) rfl, by decide +kernel, by decide +kernel, by decide +kernel⟩, gw_at 400 (by decide +kernel) rfl, gw_at 401 (by decide +kernel) rfl⟩
theorem me_X0_findPlaces : mEV yX0_findPlaces cX0_findPlaces 2 none 0 := ⟨⟨gw_at 64 (by decide +kernel) rfl, gw_at 289 (by decide +kernel) rfl, by decide +kernel, by decide +kernel, by decide +kernel⟩, gw_at 288 (by decide +kernel) rfl, gw_at 7 (by decide +kernel) rfl⟩
theorem me_X0_hasArea : mEV yX0_hasArea cX0_hasArea 2 (some .boolean) 1 := ⟨⟨gw_at 64 (by decide +kernel) rfl, gw_at 312 (by decide +kernel) rfl, by decide +kernel, by decide +kernel, by decide +kernel⟩, gw_at 310 (by decide +kernel) rfl, gw_at 311 (by decide +kernel) rfl⟩
theorem me_X0_hasPlaceBehind : mEV yX0_hasPlaceBehind cX0_hasPlaceBehind 2 (some .boolean) 1 := ⟨⟨gw_at 64 (by decide +kernel) rfl, gw_at 372 (by decide +kernel) rfl, by decide +kernel, by decide +kernel, by decide +kernel⟩, gw_at 370 (by decide +kernel) rfl, gw_at 371 (by decide +kernel) rfl⟩
theorem me_X0_heightOf : mEV yX0_heightOf cX0_heightOf 3 (some .int) 1 := ⟨⟨gw_at 64 (by decide +kernel) rfl, gw_at 293 (by decide +kernel) rfl, by decide +kernel, by decide +kernel, by decide +kernel⟩, gw_at 292 (by decide +kernel) rfl, gw_at 8 (by decide +kernel) rfl⟩
theorem me_X0_isAbove : mEV yX0_isAbove cX0_isAbove 3 (some .boolean) 2 := ⟨⟨gw_at 64 (by decide +kernel) rfl, gw_at 328 (by decide +kernel) rfl, by decide +kernel, by decide +kernel, by decide +kernel⟩, gw_at 327 (by decide +kernel) rfl, gw_at 12 (by decide +kernel) rfl⟩
theorem me_X0_isCritical : mEV yX0_isCritical cX0_isCritical 4 (some .boolean) 1 := ⟨⟨gw_at 64 (by decide +kernel) rfl, gw_at 346 (by decide +kernel) rfl, by decide +kernel, by decide +kernel, by decide +kernel⟩, gw_at 344 (by decide +kernel) rfl, gw_at 345 (by decide +kernel) rfl⟩
theorem me_X0_isLeft : mEV yX0_isLeft cX0_isLeft 3 (some .boolean) 2 := ⟨⟨gw_at 64 (by decide +kernel) rfl, gw_at 320 (by decide +kernel) rfl, by decide +kernel, by decide +kernel, by decide +kernel⟩, gw_at 319 (by decide +kernel) rfl, gw_at 11 (by decide +kernel) rfl⟩
theorem me_X0_lay : mEV yX0_lay cX0_lay 3 none 0 := ⟨⟨gw_at 64 (by decide +kernel) rfl, gw_at 285 (by decide +kernel) rfl, by decide +kernel, by decide +kernel, by decide +kernel⟩, gw_at 283 (by decide +kernel) rfl, gw_at 284 (by decide +kernel) rfl⟩
theorem me_X0_leftOf : mEV yX0_leftOf cX0_leftOf 4 (some .int) 1 := ⟨⟨gw_at 64 (by decide +kernel) rfl, gw_at 316 (by decide +kernel) rfl, by decide +kernel, by decide +kernel, by decide +kernel⟩, gw_at 314 (by decide +kernel) rfl, gw_at 315 (by decide +kernel) rfl⟩
theorem me_X0_meet : mES yX0_meet cX0_meet 4 (some .boolean) 4 := ⟨⟨gw_at 64 (by decide +kernel) rfl, gw_at 339 (by decide +kernel) rfl, by decide +kernel, by decide +kernel, by decide +kernel⟩, gw_at 338 (by decide +kernel) rfl⟩
theorem me_X0_nextToNarrow : mEV yX0_nextToNarrow cX0_nextToNarrow 2 (some .int) 0 := ⟨⟨gw_at 64 (by decide +kernel) rfl, gw_at 411 (by decide +kernel) rfl, by decide +kernel, by decide +kernel, by decide +kernel⟩, gw_at 409 (by decide +kernel) rfl, gw_at 410 (by decide +kernel) rfl⟩
theorem me_X0_share : mES yX0_share cX0_share 4 (some .boolean) 4 := ⟨⟨gw_at 64 (by decide +kernel) rfl, gw_at 342 (by decide +kernel) rfl, by decide +kernel, by decide +kernel, by decide +kernel⟩, gw_at 341 (by decide +kernel) rfl⟩
theorem me_X0_sizeOf : mEV yX0_sizeOf cX0_sizeOf 2 (some .int) 1 := ⟨⟨gw_at 64 (by decide +kernel) rfl, gw_at 297 (by decide +kernel) rfl, by decide +kernel, by decide +kernel, by decide +kernel⟩, gw_at 296 (by decide +kernel) rfl, gw_at 9 (by decide +kernel) rfl⟩
theorem me_X0_startOrders : mEV yX0_startOrders cX0_startOrders 2 none 0 := ⟨⟨gw_at 64 (by decide +kernel) rfl, gw_at 458 (by decide +kernel) rfl, by decide +kernel, by decide +kernel, by decide +kernel⟩, gw_at 456 (by decide +kernel) rfl, gw_at 457 (by decide +kernel) rfl⟩
theorem me_X0_stepOrder : mEV yX0_stepOrder cX0_stepOrder 6 none 0 := ⟨⟨gw_at 64 (by decide +kernel) rfl, gw_at 463 (by decide +kernel) rfl, by decide +kernel, by decide +kernel, by decide +kernel⟩, gw_at 461 (by decide +kernel) rfl, gw_at 462 (by decide +kernel) rfl⟩
theorem me_X0_swap : mES yX0_swap cX0_swap 4 none 3 := ⟨⟨gw_at 64 (by decide +kernel) rfl, gw_at 379 (by decide +kernel) rfl, by decide +kernel, by decide +kernel, by decide +kernel⟩, gw_at 378 (by decide +kernel) rfl⟩
theorem me_X0_touch : mEV yX0_touch cX0_touch 3 (some .boolean) 2 := ⟨⟨gw_at 64 (by decide +kernel) rfl, gw_at 336 (by decide +kernel) rfl, by decide +kernel, by decide +kernel, by decide +kernel⟩, gw_at 334 (by decide +kernel) rfl, gw_at 335 (by decide +kernel) rfl⟩
theorem me_X0_touching : mEV yX0_touching cX0_touching 4 (some .int) 1 := ⟨⟨gw_at 64 (by decide +kernel) rfl, gw_at 332 (by decide +kernel) rfl, by decide +kernel, by decide +kernel, by decide +kernel⟩, gw_at 330 (by decide +kernel) rfl, gw_at 331 (by decide +kernel) rfl⟩
theorem me_X0_touchingTwos : mEV yX0_touchingTwos cX0_touchingTwos 3 (some .int) 0 := ⟨⟨gw_at 64 (by decide +kernel) rfl, gw_at 391 (by decide +kernel) rfl, by decide +kernel, by decide +kernel, by decide +kernel⟩, gw_at 389 (by decide +kernel) rfl, gw_at 390 (by decide +kernel) rfl⟩
theorem me_X0_turnPlaces : mEV yX0_turnPlaces cX0_turnPlaces 3 none 2 := ⟨⟨gw_at 64 (by decide +kernel) rfl, gw_at 376 (by decide +kernel) rfl, by decide +kernel, by decide +kernel, by decide +kernel⟩, gw_at 374 (by decide +kernel) rfl, gw_at 375 (by decide +kernel) rfl⟩
theorem me_X0_waste : mEV yX0_waste cX0_waste 3 (some .int) 0 := ⟨⟨gw_at 64 (by decide +kernel) rfl, gw_at 387 (by decide +kernel) rfl, by decide +kernel, by decide +kernel, by decide +kernel⟩, gw_at 385 (by decide +kernel) rfl, gw_at 386 (by decide +kernel) rfl⟩
theorem me_X0_widestOf : mEV yX0_widestOf cX0_widestOf 5 (some .int) 1 := ⟨⟨gw_at 64 (by decide +kernel) rfl, gw_at 416 (by decide +kernel) rfl, by decide +kernel, by decide +kernel, by decide +kernel⟩, gw_at 415 (by decide +kernel) rfl, gw_at 13 (by decide +kernel) rfl⟩
theorem me_X1_takeDigit : mEV yX1_takeDigit cX1_takeDigit 3 (some .int) 2 := ⟨⟨gw_at 65 (by decide +kernel) rfl, gw_at 272 (by decide +kernel) rfl, by decide +kernel, by decide +kernel, by decide +kernel⟩, gw_at 271 (by decide +kernel) rfl, gw_at 5 (by decide +kernel) rfl⟩
theorem me_X1_takeKind : mEV yX1_takeKind cX1_takeKind 1 (some .int) 0 := ⟨⟨gw_at 65 (by decide +kernel) rfl, gw_at 268 (by decide +kernel) rfl, by decide +kernel, by decide +kernel, by decide +kernel⟩, gw_at 267 (by decide +kernel) rfl, gw_at 4 (by decide +kernel) rfl⟩
theorem me_X1_takes : mEV yX1_takes cX1_takes 4 (some .boolean) 3 := ⟨⟨gw_at 65 (by decide +kernel) rfl, gw_at 249 (by decide +kernel) rfl, by decide +kernel, by decide +kernel, by decide +kernel⟩, gw_at 247 (by decide +kernel) rfl, gw_at 248 (by decide +kernel) rfl⟩
theorem me_X1_takesArea : mEV yX1_takesArea cX1_takesArea 5 (some .boolean) 1 := ⟨⟨gw_at 65 (by decide +kernel) rfl, gw_at 264 (by decide +kernel) rfl, by decide +kernel, by decide +kernel, by decide +kernel⟩, gw_at 263 (by decide +kernel) rfl, gw_at 3 (by decide +kernel) rfl⟩
theorem me_X1_takesAreas : mEV yX1_takesAreas cX1_takesAreas 2 (some .boolean) 0 := ⟨⟨gw_at 65 (by decide +kernel) rfl, gw_at 260 (by decide +kernel) rfl, by decide +kernel, by decide +kernel, by decide +kernel⟩, gw_at 259 (by decide +kernel) rfl, gw_at 2 (by decide +kernel) rfl⟩
theorem me_X1_takesCode : mEV yX1_takesCode cX1_takesCode 2 (some .boolean) 1 := ⟨⟨gw_at 65 (by decide +kernel) rfl, gw_at 256 (by decide +kernel) rfl, by decide +kernel, by decide +kernel, by decide +kernel⟩, gw_at 255 (by decide +kernel) rfl, gw_at 1 (by decide +kernel) rfl⟩
theorem me_X1_takesOrder : mEV yX1_takesOrder cX1_takesOrder 5 (some .boolean) 1 := ⟨⟨gw_at 65 (by decide +kernel) rfl, gw_at 276 (by decide +kernel) rfl, by decide +kernel, by decide +kernel, by decide +kernel⟩, gw_at 275 (by decide +kernel) rfl, gw_at 6 (by decide +kernel) rfl⟩
theorem me_X2_faultAs : mEV yX2_faultAs cX2_faultAs 2 (some .int) 1 := ⟨⟨gw_at 66 (by decide +kernel) rfl, gw_at 237 (by decide +kernel) rfl, by decide +kernel, by decide +kernel, by decide +kernel⟩, gw_at 235 (by decide +kernel) rfl, gw_at 236 (by decide +kernel) rfl⟩
theorem me_X2_hasCell : mEV yX2_hasCell cX2_hasCell 2 (some .boolean) 1 := ⟨⟨gw_at 66 (by decide +kernel) rfl, gw_at 524 (by decide +kernel) rfl, by decide +kernel, by decide +kernel, by decide +kernel⟩, gw_at 522 (by decide +kernel) rfl, gw_at 523 (by decide +kernel) rfl⟩
theorem me_X2_hasCells : mEV yX2_hasCells cX2_hasCells 3 (some .boolean) 2 := ⟨⟨gw_at 66 (by decide +kernel) rfl, gw_at 241 (by decide +kernel) rfl, by decide +kernel, by decide +kernel, by decide +kernel⟩, gw_at 239 (by decide +kernel) rfl, gw_at 240 (by decide +kernel) rfl⟩
theorem me_X2_renew : mEV yX2_renew cX2_renew 4 none 2 := ⟨⟨gw_at 66 (by decide +kernel) rfl, gw_at 512 (by decide +kernel) rfl, by decide +kernel, by decide +kernel, by decide +kernel⟩, gw_at 510 (by decide +kernel) rfl, gw_at 511 (by decide +kernel) rfl⟩
theorem me_X3_actOnTrial : mEV yX3_actOnTrial cX3_actOnTrial 4 (some .boolean) 3 := ⟨⟨gw_at 63 (by decide +kernel) rfl, gw_at 440 (by decide +kernel) rfl, by decide +kernel, by decide +kernel, by decide +kernel⟩, gw_at 439 (by decide +kernel) rfl, gw_at 15 (by decide +kernel) rfl⟩
theorem me_X3_allAreAreas : mEV yX3_allAreAreas cX3_allAreAreas 5 (some .boolean) 3 := ⟨⟨gw_at 63 (by decide +kernel) rfl, gw_at 471 (by decide +kernel) rfl, by decide +kernel, by decide +kernel, by decide +kernel⟩, gw_at 470 (by decide +kernel) rfl, gw_at 18 (by decide +kernel) rfl⟩
theorem me_X3_as : mEV yX3_as cX3_as 3 (some .int) 2 := ⟨⟨gw_at 63 (by decide +kernel) rfl, gw_at 571 (by decide +kernel) rfl, by decide +kernel, by decide +kernel, by decide +kernel⟩, gw_at 569 (by decide +kernel) rfl, gw_at 570 (by decide +kernel) rfl⟩
theorem me_X3_back : mEV yX3_back cX3_back 2 (some .int) 1 := ⟨⟨gw_at 63 (by decide +kernel) rfl, gw_at 480 (by decide +kernel) rfl, by decide +kernel, by decide +kernel, by decide +kernel⟩, gw_at 478 (by decide +kernel) rfl, gw_at 479 (by decide +kernel) rfl⟩
theorem me_X3_broadBody : mEV yX3_broadBody cX3_broadBody 2 (some .int) 1 := ⟨⟨gw_at 63 (by decide +kernel) rfl, gw_at 551 (by decide +kernel) rfl, by decide +kernel, by decide +kernel, by decide +kernel⟩, gw_at 550 (by decide +kernel) rfl, gw_at 23 (by decide +kernel) rfl⟩
theorem me_X3_cell : mEV yX3_cell cX3_cell 6 (some .long) 3 := ⟨⟨gw_at 63 (by decide +kernel) rfl, gw_at 531 (by decide +kernel) rfl, by decide +kernel, by decide +kernel, by decide +kernel⟩, gw_at 529 (by decide +kernel) rfl, gw_at 530 (by decide +kernel) rfl⟩
theorem me_X3_commonDivisor : mES yX3_commonDivisor cX3_commonDivisor 6 (some .int) 2 := ⟨⟨gw_at 63 (by decide +kernel) rfl, gw_at 504 (by decide +kernel) rfl, by decide +kernel, by decide +kernel, by decide +kernel⟩, gw_at 503 (by decide +kernel) rfl⟩
theorem me_X3_copy : mEV yX3_copy cX3_copy 8 (some .int) 5 := ⟨⟨gw_at 63 (by decide +kernel) rfl, gw_at 535 (by decide +kernel) rfl, by decide +kernel, by decide +kernel, by decide +kernel⟩, gw_at 533 (by decide +kernel) rfl, gw_at 534 (by decide +kernel) rfl⟩
theorem me_X3_cutTo : mES yX3_cutTo cX3_cutTo 2 (some .int) 2 := ⟨⟨gw_at 63 (by decide +kernel) rfl, gw_at 527 (by decide +kernel) rfl, by decide +kernel, by decide +kernel, by decide +kernel⟩, gw_at 526 (by decide +kernel) rfl⟩
theorem me_X3_day : mEV yX3_day cX3_day 9 (some .int) 5 := ⟨⟨gw_at 63 (by decide +kernel) rfl, gw_at 420 (by decide +kernel) rfl, by decide +kernel, by decide +kernel, by decide +kernel⟩, gw_at 418 (by decide +kernel) rfl, gw_at 419 (by decide +kernel) rfl⟩
theorem me_X3_doubleBody : mEV yX3_doubleBody cX3_doubleBody 3 (some .int) 1 := ⟨⟨gw_at 63 (by decide +kernel) rfl, gw_at 543 (by decide +kernel) rfl, by decide +kernel, by decide +kernel, by decide +kernel⟩, gw_at 542 (by decide +kernel) rfl, gw_at 21 (by decide +kernel) rfl⟩
theorem me_X3_failed : mEV yX3_failed cX3_failed 2 (some .int) 1 := ⟨⟨gw_at 63 (by decide +kernel) rfl, gw_at 245 (by decide +kernel) rfl, by decide +kernel, by decide +kernel, by decide +kernel⟩, gw_at 244 (by decide +kernel) rfl, gw_at 0 (by decide +kernel) rfl⟩
theorem me_X3_fault : mEV yX3_fault cX3_fault 1 (some .int) 0 := ⟨⟨gw_at 63 (by decide +kernel) rfl, gw_at 579 (by decide +kernel) rfl, by decide +kernel, by decide +kernel, by decide +kernel⟩, gw_at 577 (by decide +kernel) rfl, gw_at 578 (by decide +kernel) rfl⟩
theorem me_X3_faultOfRow : mES yX3_faultOfRow cX3_faultOfRow 5 (some .int) 4 := ⟨⟨gw_at 63 (by decide +kernel) rfl, gw_at 429 (by decide +kernel) rfl, by decide +kernel, by decide +kernel, by decide +kernel⟩, gw_at 428 (by decide +kernel) rfl⟩
theorem me_X3_findLeast : mEV yX3_findLeast cX3_findLeast 5 (some .int) 0 := ⟨⟨gw_at 63 (by decide +kernel) rfl, gw_at 452 (by decide +kernel) rfl, by decide +kernel, by decide +kernel, by decide +kernel⟩, gw_at 451 (by decide +kernel) rfl, gw_at 17 (by decide +kernel) rfl⟩
theorem me_X3_firstWrong : mEV yX3_firstWrong cX3_firstWrong 6 (some .int) 3 := ⟨⟨gw_at 63 (by decide +kernel) rfl, gw_at 436 (by decide +kernel) rfl, by decide +kernel, by decide +kernel, by decide +kernel⟩, gw_at 435 (by decide +kernel) rfl, gw_at 14 (by decide +kernel) rfl⟩
theorem me_X3_isAskedOfDay : mES yX3_isAskedOfDay cX3_isAskedOfDay 1 (some .boolean) 1 := ⟨⟨gw_at 63 (by decide +kernel) rfl, gw_at 426 (by decide +kernel) rfl, by decide +kernel, by decide +kernel, by decide +kernel⟩, gw_at 425 (by decide +kernel) rfl⟩
theorem me_X3_isLane : mES yX3_isLane cX3_isLane 1 (some .boolean) 1 := ⟨⟨gw_at 63 (by decide +kernel) rfl, gw_at 233 (by decide +kernel) rfl, by decide +kernel, by decide +kernel, by decide +kernel⟩, gw_at 232 (by decide +kernel) rfl⟩
theorem me_X3_isOrder : mES yX3_isOrder cX3_isOrder 1 (some .boolean) 1 := ⟨⟨gw_at 63 (by decide +kernel) rfl, gw_at 368 (by decide +kernel) rfl, by decide +kernel, by decide +kernel, by decide +kernel⟩, gw_at 367 (by decide +kernel) rfl⟩
theorem me_X3_isPlot : mES yX3_isPlot cX3_isPlot 1 (some .boolean) 1 := ⟨⟨gw_at 63 (by decide +kernel) rfl, gw_at 361 (by decide +kernel) rfl, by decide +kernel, by decide +kernel, by decide +kernel⟩, gw_at 360 (by decide +kernel) rfl⟩
theorem me_X3_isSheet : mES yX3_isSheet cX3_isSheet 1 (some .boolean) 1 := ⟨⟨gw_at 63 (by decide +kernel) rfl, gw_at 230 (by decide +kernel) rfl, by decide +kernel, by decide +kernel, by decide +kernel⟩, gw_at 229 (by decide +kernel) rfl⟩
theorem me_X3_isTold : mES yX3_isTold cX3_isTold 1 (some .boolean) 1 := ⟨⟨gw_at 63 (by decide +kernel) rfl, gw_at 423 (by decide +kernel) rfl, by decide +kernel, by decide +kernel, by decide +kernel⟩, gw_at 422 (by decide +kernel) rfl⟩
theorem me_X3_isWidth : mES yX3_isWidth cX3_isWidth 1 (some .boolean) 1 := ⟨⟨gw_at 63 (by decide +kernel) rfl, gw_at 353 (by decide +kernel) rfl, by decide +kernel, by decide +kernel, by decide +kernel⟩, gw_at 352 (by decide +kernel) rfl⟩
theorem me_X3_kinds : mEV yX3_kinds cX3_kinds 4 (some .int) 1 := ⟨⟨gw_at 63 (by decide +kernel) rfl, gw_at 484 (by decide +kernel) rfl, by decide +kernel, by decide +kernel, by decide +kernel⟩, gw_at 482 (by decide +kernel) rfl, gw_at 483 (by decide +kernel) rfl⟩
theorem me_X3_least : mEV yX3_least cX3_least 3 (some .int) 1 := ⟨⟨gw_at 63 (by decide +kernel) rfl, gw_at 448 (by decide +kernel) rfl, by decide +kernel, by decide +kernel, by decide +kernel⟩, gw_at 446 (by decide +kernel) rfl, gw_at 447 (by decide +kernel) rfl⟩
theorem me_X3_leave : mEV yX3_leave cX3_leave 2 none 1 := ⟨⟨gw_at 63 (by decide +kernel) rfl, gw_at 547 (by decide +kernel) rfl, by decide +kernel, by decide +kernel, by decide +kernel⟩, gw_at 546 (by decide +kernel) rfl, gw_at 22 (by decide +kernel) rfl⟩
theorem me_X3_lentBody : mEV yX3_lentBody cX3_lentBody 2 (some .int) 1 := ⟨⟨gw_at 63 (by decide +kernel) rfl, gw_at 567 (by decide +kernel) rfl, by decide +kernel, by decide +kernel, by decide +kernel⟩, gw_at 566 (by decide +kernel) rfl, gw_at 26 (by decide +kernel) rfl⟩
theorem me_X3_lose : mEV yX3_lose cX3_lose 3 (some .int) 1 := ⟨⟨gw_at 63 (by decide +kernel) rfl, gw_at 516 (by decide +kernel) rfl, by decide +kernel, by decide +kernel, by decide +kernel⟩, gw_at 514 (by decide +kernel) rfl, gw_at 515 (by decide +kernel) rfl⟩
theorem me_X3_many : mEV yX3_many cX3_many 2 (some .int) 1 := ⟨⟨gw_at 63 (by decide +kernel) rfl, gw_at 583 (by decide +kernel) rfl, by decide +kernel, by decide +kernel, by decide +kernel⟩, gw_at 581 (by decide +kernel) rfl, gw_at 582 (by decide +kernel) rfl⟩
theorem me_X3_map : mEV yX3_map cX3_map 7 (some .int) 4 := ⟨⟨gw_at 63 (by decide +kernel) rfl, gw_at 227 (by decide +kernel) rfl, by decide +kernel, by decide +kernel, by decide +kernel⟩, gw_at 225 (by decide +kernel) rfl, gw_at 226 (by decide +kernel) rfl⟩
theorem me_X3_odds : mEV yX3_odds cX3_odds 6 (some .long) 2 := ⟨⟨gw_at 63 (by decide +kernel) rfl, gw_at 496 (by decide +kernel) rfl, by decide +kernel, by decide +kernel, by decide +kernel⟩, gw_at 494 (by decide +kernel) rfl, gw_at 495 (by decide +kernel) rfl⟩
theorem me_X3_ofArea : mEV yX3_ofArea cX3_ofArea 3 (some .int) 2 := ⟨⟨gw_at 63 (by decide +kernel) rfl, gw_at 308 (by decide +kernel) rfl, by decide +kernel, by decide +kernel, by decide +kernel⟩, gw_at 306 (by decide +kernel) rfl, gw_at 307 (by decide +kernel) rfl⟩
theorem me_X3_ofTrial : mEV yX3_ofTrial cX3_ofTrial 2 (some .int) 1 := ⟨⟨gw_at 63 (by decide +kernel) rfl, gw_at 444 (by decide +kernel) rfl, by decide +kernel, by decide +kernel, by decide +kernel⟩, gw_at 443 (by decide +kernel) rfl, gw_at 16 (by decide +kernel) rfl⟩
theorem me_X3_ordersWithin : mEV yX3_ordersWithin cX3_ordersWithin 5 (some .int) 1 := ⟨⟨gw_at 63 (by decide +kernel) rfl, gw_at 501 (by decide +kernel) rfl, by decide +kernel, by decide +kernel, by decide +kernel⟩, gw_at 500 (by decide +kernel) rfl, gw_at 20 (by decide +kernel) rfl⟩
theorem me_X3_ownBody : mEV yX3_ownBody cX3_ownBody 2 (some .int) 1 := ⟨⟨gw_at 63 (by decide +kernel) rfl, gw_at 563 (by decide +kernel) rfl, by decide +kernel, by decide +kernel, by decide +kernel⟩, gw_at 562 (by decide +kernel) rfl, gw_at 25 (by decide +kernel) rfl⟩
theorem me_X3_plainBody : mEV yX3_plainBody cX3_plainBody 2 (some .int) 1 := ⟨⟨gw_at 63 (by decide +kernel) rfl, gw_at 555 (by decide +kernel) rfl, by decide +kernel, by decide +kernel, by decide +kernel⟩, gw_at 554 (by decide +kernel) rfl, gw_at 24 (by decide +kernel) rfl⟩
theorem me_X3_plot : mEV yX3_plot cX3_plot 4 (some .int) 2 := ⟨⟨gw_at 63 (by decide +kernel) rfl, gw_at 358 (by decide +kernel) rfl, by decide +kernel, by decide +kernel, by decide +kernel⟩, gw_at 356 (by decide +kernel) rfl, gw_at 357 (by decide +kernel) rfl⟩
theorem me_X3_put : mEV yX3_put cX3_put 5 (some .int) 3 := ⟨⟨gw_at 63 (by decide +kernel) rfl, gw_at 520 (by decide +kernel) rfl, by decide +kernel, by decide +kernel, by decide +kernel⟩, gw_at 518 (by decide +kernel) rfl, gw_at 519 (by decide +kernel) rfl⟩
theorem me_X3_reading : mEV yX3_reading cX3_reading 4 (some .int) 2 := ⟨⟨gw_at 63 (by decide +kernel) rfl, gw_at 476 (by decide +kernel) rfl, by decide +kernel, by decide +kernel, by decide +kernel⟩, gw_at 474 (by decide +kernel) rfl, gw_at 475 (by decide +kernel) rfl⟩
theorem me_X3_readingsHold : mEV yX3_readingsHold cX3_readingsHold 2 (some .boolean) 0 := ⟨⟨gw_at 63 (by decide +kernel) rfl, gw_at 488 (by decide +kernel) rfl, by decide +kernel, by decide +kernel, by decide +kernel⟩, gw_at 487 (by decide +kernel) rfl, gw_at 19 (by decide +kernel) rfl⟩
theorem me_X3_sheet : mEV yX3_sheet cX3_sheet 4 (some .int) 3 := ⟨⟨gw_at 63 (by decide +kernel) rfl, gw_at 508 (by decide +kernel) rfl, by decide +kernel, by decide +kernel, by decide +kernel⟩, gw_at 506 (by decide +kernel) rfl, gw_at 507 (by decide +kernel) rfl⟩
theorem me_X3_sortsAreKnown : mES yX3_sortsAreKnown cX3_sortsAreKnown 5 (some .boolean) 3 := ⟨⟨gw_at 63 (by decide +kernel) rfl, gw_at 432 (by decide +kernel) rfl, by decide +kernel, by decide +kernel, by decide +kernel⟩, gw_at 431 (by decide +kernel) rfl⟩
theorem me_X3_squeeze : mEV yX3_squeeze cX3_squeeze 4 (some .int) 1 := ⟨⟨gw_at 63 (by decide +kernel) rfl, gw_at 407 (by decide +kernel) rfl, by decide +kernel, by decide +kernel, by decide +kernel⟩, gw_at 405 (by decide +kernel) rfl, gw_at 406 (by decide +kernel) rfl⟩
theorem me_X3_survey : mEV yX3_survey cX3_survey 2 (some .int) 1 := ⟨⟨gw_at 63 (by decide +kernel) rfl, gw_at 559 (by decide +kernel) rfl, by decide +kernel, by decide +kernel, by decide +kernel⟩, gw_at 557 (by decide +kernel) rfl, gw_at 558 (by decide +kernel) rfl⟩
theorem me_X3_tell : mEV yX3_tell cX3_tell 2 (some .int) 1 := ⟨⟨gw_at 63 (by decide +kernel) rfl, gw_at 539 (by decide +kernel) rfl, by decide +kernel, by decide +kernel, by decide +kernel⟩, gw_at 537 (by decide +kernel) rfl, gw_at 538 (by decide +kernel) rfl⟩
theorem me_X3_trace : mEV yX3_trace cX3_trace 1 (some .int) 0 := ⟨⟨gw_at 63 (by decide +kernel) rfl, gw_at 575 (by decide +kernel) rfl, by decide +kernel, by decide +kernel, by decide +kernel⟩, gw_at 573 (by decide +kernel) rfl, gw_at 574 (by decide +kernel) rfl⟩
theorem me_X3_turn : mEV yX3_turn cX3_turn 3 (some .int) 2 := ⟨⟨gw_at 63 (by decide +kernel) rfl, gw_at 365 (by decide +kernel) rfl, by decide +kernel, by decide +kernel, by decide +kernel⟩, gw_at 363 (by decide +kernel) rfl, gw_at 364 (by decide +kernel) rfl⟩
theorem me_X3_whole : mEV yX3_whole cX3_whole 2 (some .int) 1 := ⟨⟨gw_at 63 (by decide +kernel) rfl, gw_at 383 (by decide +kernel) rfl, by decide +kernel, by decide +kernel, by decide +kernel⟩, gw_at 381 (by decide +kernel) rfl, gw_at 382 (by decide +kernel) rfl⟩
theorem me_X3_width : mEV yX3_width cX3_width 4 (some .int) 2 := ⟨⟨gw_at 63 (by decide +kernel) rfl, gw_at 350 (by decide +kernel) rfl, by decide +kernel, by decide +kernel, by decide +kernel⟩, gw_at 348 (by decide +kernel) rfl, gw_at 349 (by decide +kernel) rfl⟩
theorem me_X3_widths : mEV yX3_widths cX3_widths 4 (some .int) 1 := ⟨⟨gw_at 63 (by decide +kernel) rfl, gw_at 492 (by decide +kernel) rfl, by decide +kernel, by decide +kernel, by decide +kernel⟩, gw_at 490 (by decide +kernel) rfl, gw_at 491 (by decide +kernel) rfl⟩
theorem me_X3_wishes : mEV yX3_wishes cX3_wishes 9 (some .int) 4 := ⟨⟨gw_at 63 (by decide +kernel) rfl, gw_at 467 (by decide +kernel) rfl, by decide +kernel, by decide +kernel, by decide +kernel⟩, gw_at 465 (by decide +kernel) rfl, gw_at 466 (by decide +kernel) rfl⟩
theorem me_X4_aboveOf : mEV yX4_aboveOf cX4_aboveOf 4 (some .int) 1 := ⟨⟨gw_at 67 (by decide +kernel) rfl, gw_at 773 (by decide +kernel) rfl, by decide +kernel, by decide +kernel, by decide +kernel⟩, gw_at 772 (by decide +kernel) rfl, gw_at 42 (by decide +kernel) rfl⟩
theorem me_X4_against : mEV yX4_against cX4_against 5 (some .int) 4 := ⟨⟨gw_at 67 (by decide +kernel) rfl, gw_at 709 (by decide +kernel) rfl, by decide +kernel, by decide +kernel, by decide +kernel⟩, gw_at 708 (by decide +kernel) rfl, gw_at 27 (by decide +kernel) rfl⟩
theorem me_X4_areSo : mEV yX4_areSo cX4_areSo 2 (some .boolean) 0 := ⟨⟨gw_at 67 (by decide +kernel) rfl, gw_at 891 (by decide +kernel) rfl, by decide +kernel, by decide +kernel, by decide +kernel⟩, gw_at 890 (by decide +kernel) rfl, gw_at 59 (by decide +kernel) rfl⟩
theorem me_X4_as : mEV yX4_as cX4_as 3 (some .int) 2 := ⟨⟨gw_at 67 (by decide +kernel) rfl, gw_at 943 (by decide +kernel) rfl, by decide +kernel, by decide +kernel, by decide +kernel⟩, gw_at 941 (by decide +kernel) rfl, gw_at 942 (by decide +kernel) rfl⟩
theorem me_X4_back : mEV yX4_back cX4_back 2 (some .int) 1 := ⟨⟨gw_at 67 (by decide +kernel) rfl, gw_at 883 (by decide +kernel) rfl, by decide +kernel, by decide +kernel, by decide +kernel⟩, gw_at 881 (by decide +kernel) rfl, gw_at 882 (by decide +kernel) rfl⟩
theorem me_X4_begins : mEV yX4_begins cX4_begins 2 none 1 := ⟨⟨gw_at 67 (by decide +kernel) rfl, gw_at 935 (by decide +kernel) rfl, by decide +kernel, by decide +kernel, by decide +kernel⟩, gw_at 934 (by decide +kernel) rfl, gw_at 61 (by decide +kernel) rfl⟩
theorem me_X4_cell : mEV yX4_cell cX4_cell 4 (some .long) 3 := ⟨⟨gw_at 67 (by decide +kernel) rfl, gw_at 919 (by decide +kernel) rfl, by decide +kernel, by decide +kernel, by decide +kernel⟩, gw_at 917 (by decide +kernel) rfl, gw_at 918 (by decide +kernel) rfl⟩
theorem me_X4_copy : mEV yX4_copy cX4_copy 10 (some .int) 5 := ⟨⟨gw_at 67 (by decide +kernel) rfl, gw_at 927 (by decide +kernel) rfl, by decide +kernel, by decide +kernel, by decide +kernel⟩, gw_at 925 (by decide +kernel) rfl, gw_at 926 (by decide +kernel) rfl⟩
theorem me_X4_critical : mEV yX4_critical cX4_critical 4 (some .int) 0 := ⟨⟨gw_at 67 (by decide +kernel) rfl, gw_at 792 (by decide +kernel) rfl, by decide +kernel, by decide +kernel, by decide +kernel⟩, gw_at 791 (by decide +kernel) rfl, gw_at 46 (by decide +kernel) rfl⟩
theorem me_X4_day : mEV yX4_day cX4_day 10 (some .int) 5 := ⟨⟨gw_at 67 (by decide +kernel) rfl, gw_at 835 (by decide +kernel) rfl, by decide +kernel, by decide +kernel, by decide +kernel⟩, gw_at 833 (by decide +kernel) rfl, gw_at 834 (by decide +kernel) rfl⟩
theorem me_X4_digit : mEV yX4_digit cX4_digit 4 (some .int) 3 := ⟨⟨gw_at 67 (by decide +kernel) rfl, gw_at 729 (by decide +kernel) rfl, by decide +kernel, by decide +kernel, by decide +kernel⟩, gw_at 728 (by decide +kernel) rfl, gw_at 32 (by decide +kernel) rfl⟩
theorem me_X4_doTouch : mEV yX4_doTouch cX4_doTouch 5 (some .boolean) 2 := ⟨⟨gw_at 67 (by decide +kernel) rfl, gw_at 785 (by decide +kernel) rfl, by decide +kernel, by decide +kernel, by decide +kernel⟩, gw_at 784 (by decide +kernel) rfl, gw_at 45 (by decide +kernel) rfl⟩
theorem me_X4_does : mEV yX4_does cX4_does 4 (some .boolean) 3 := ⟨⟨gw_at 67 (by decide +kernel) rfl, gw_at 847 (by decide +kernel) rfl, by decide +kernel, by decide +kernel, by decide +kernel⟩, gw_at 846 (by decide +kernel) rfl, gw_at 53 (by decide +kernel) rfl⟩
theorem me_X4_fails : mEV yX4_fails cX4_fails 2 (some .int) 1 := ⟨⟨gw_at 67 (by decide +kernel) rfl, gw_at 713 (by decide +kernel) rfl, by decide +kernel, by decide +kernel, by decide +kernel⟩, gw_at 712 (by decide +kernel) rfl, gw_at 28 (by decide +kernel) rfl⟩
theorem me_X4_fault : mEV yX4_fault cX4_fault 1 (some .int) 0 := ⟨⟨gw_at 67 (by decide +kernel) rfl, gw_at 951 (by decide +kernel) rfl, by decide +kernel, by decide +kernel, by decide +kernel⟩, gw_at 949 (by decide +kernel) rfl, gw_at 950 (by decide +kernel) rfl⟩
theorem me_X4_findBreadth : mEV yX4_findBreadth cX4_findBreadth 5 none 0 := ⟨⟨gw_at 67 (by decide +kernel) rfl, gw_at 749 (by decide +kernel) rfl, by decide +kernel, by decide +kernel, by decide +kernel⟩, gw_at 748 (by decide +kernel) rfl, gw_at 36 (by decide +kernel) rfl⟩
theorem me_X4_findDepth : mEV yX4_findDepth cX4_findDepth 5 none 0 := ⟨⟨gw_at 67 (by decide +kernel) rfl, gw_at 753 (by decide +kernel) rfl, by decide +kernel, by decide +kernel, by decide +kernel⟩, gw_at 752 (by decide +kernel) rfl, gw_at 37 (by decide +kernel) rfl⟩
theorem me_X4_findLeast : mEV yX4_findLeast cX4_findLeast 4 none 1 := ⟨⟨gw_at 67 (by decide +kernel) rfl, gw_at 863 (by decide +kernel) rfl, by decide +kernel, by decide +kernel, by decide +kernel⟩, gw_at 862 (by decide +kernel) rfl, gw_at 56 (by decide +kernel) rfl⟩
theorem me_X4_findPlaces : mEV yX4_findPlaces cX4_findPlaces 2 none 0 := ⟨⟨gw_at 67 (by decide +kernel) rfl, gw_at 745 (by decide +kernel) rfl, by decide +kernel, by decide +kernel, by decide +kernel⟩, gw_at 744 (by decide +kernel) rfl, gw_at 35 (by decide +kernel) rfl⟩
theorem me_X4_goDay : mEV yX4_goDay cX4_goDay 4 (some .int) 2 := ⟨⟨gw_at 67 (by decide +kernel) rfl, gw_at 843 (by decide +kernel) rfl, by decide +kernel, by decide +kernel, by decide +kernel⟩, gw_at 842 (by decide +kernel) rfl, gw_at 52 (by decide +kernel) rfl⟩
theorem me_X4_goesOn : mEV yX4_goesOn cX4_goesOn 6 (some .boolean) 0 := ⟨⟨gw_at 67 (by decide +kernel) rfl, gw_at 867 (by decide +kernel) rfl, by decide +kernel, by decide +kernel, by decide +kernel⟩, gw_at 866 (by decide +kernel) rfl, gw_at 57 (by decide +kernel) rfl⟩
theorem me_X4_heightOf : mEV yX4_heightOf cX4_heightOf 3 (some .int) 1 := ⟨⟨gw_at 67 (by decide +kernel) rfl, gw_at 757 (by decide +kernel) rfl, by decide +kernel, by decide +kernel, by decide +kernel⟩, gw_at 756 (by decide +kernel) rfl, gw_at 38 (by decide +kernel) rfl⟩
theorem me_X4_inLeastTerms : mES yX4_inLeastTerms cX4_inLeastTerms 11 (some .long) 3 := ⟨⟨gw_at 67 (by decide +kernel) rfl, gw_at 903 (by decide +kernel) rfl, by decide +kernel, by decide +kernel, by decide +kernel⟩, gw_at 902 (by decide +kernel) rfl⟩
theorem me_X4_isAbove : mEV yX4_isAbove cX4_isAbove 3 (some .boolean) 2 := ⟨⟨gw_at 67 (by decide +kernel) rfl, gw_at 777 (by decide +kernel) rfl, by decide +kernel, by decide +kernel, by decide +kernel⟩, gw_at 776 (by decide +kernel) rfl, gw_at 43 (by decide +kernel) rfl⟩
theorem me_X4_isArea : mEV yX4_isArea cX4_isArea 2 (some .boolean) 1 := ⟨⟨gw_at 67 (by decide +kernel) rfl, gw_at 741 (by decide +kernel) rfl, by decide +kernel, by decide +kernel, by decide +kernel⟩, gw_at 740 (by decide +kernel) rfl, gw_at 34 (by decide +kernel) rfl⟩
theorem me_X4_isLeft : mEV yX4_isLeft cX4_isLeft 3 (some .boolean) 2 := ⟨⟨gw_at 67 (by decide +kernel) rfl, gw_at 765 (by decide +kernel) rfl, by decide +kernel, by decide +kernel, by decide +kernel⟩, gw_at 764 (by decide +kernel) rfl, gw_at 40 (by decide +kernel) rfl⟩
theorem me_X4_isSheet : mES yX4_isSheet cX4_isSheet 1 (some .boolean) 1 := ⟨⟨gw_at 67 (by decide +kernel) rfl, gw_at 699 (by decide +kernel) rfl, by decide +kernel, by decide +kernel, by decide +kernel⟩, gw_at 698 (by decide +kernel) rfl⟩
theorem me_X4_isSign : mEV yX4_isSign cX4_isSign 3 (some .boolean) 2 := ⟨⟨gw_at 67 (by decide +kernel) rfl, gw_at 721 (by decide +kernel) rfl, by decide +kernel, by decide +kernel, by decide +kernel⟩, gw_at 720 (by decide +kernel) rfl, gw_at 30 (by decide +kernel) rfl⟩
theorem me_X4_isSort : mES yX4_isSort cX4_isSort 1 (some .boolean) 1 := ⟨⟨gw_at 67 (by decide +kernel) rfl, gw_at 705 (by decide +kernel) rfl, by decide +kernel, by decide +kernel, by decide +kernel⟩, gw_at 704 (by decide +kernel) rfl⟩
theorem me_X4_keep : mEV yX4_keep cX4_keep 2 none 0 := ⟨⟨gw_at 67 (by decide +kernel) rfl, gw_at 839 (by decide +kernel) rfl, by decide +kernel, by decide +kernel, by decide +kernel⟩, gw_at 838 (by decide +kernel) rfl, gw_at 51 (by decide +kernel) rfl⟩
theorem me_X4_kinds : mEV yX4_kinds cX4_kinds 5 (some .int) 1 := ⟨⟨gw_at 67 (by decide +kernel) rfl, gw_at 887 (by decide +kernel) rfl, by decide +kernel, by decide +kernel, by decide +kernel⟩, gw_at 885 (by decide +kernel) rfl, gw_at 886 (by decide +kernel) rfl⟩
theorem me_X4_least : mEV yX4_least cX4_least 2 (some .int) 1 := ⟨⟨gw_at 67 (by decide +kernel) rfl, gw_at 859 (by decide +kernel) rfl, by decide +kernel, by decide +kernel, by decide +kernel⟩, gw_at 857 (by decide +kernel) rfl, gw_at 858 (by decide +kernel) rfl⟩
theorem me_X4_leftOf : mEV yX4_leftOf cX4_leftOf 4 (some .int) 1 := ⟨⟨gw_at 67 (by decide +kernel) rfl, gw_at 761 (by decide +kernel) rfl, by decide +kernel, by decide +kernel, by decide +kernel⟩, gw_at 760 (by decide +kernel) rfl, gw_at 39 (by decide +kernel) rfl⟩
theorem me_X4_lose : mEV yX4_lose cX4_lose 3 (some .int) 1 := ⟨⟨gw_at 67 (by decide +kernel) rfl, gw_at 911 (by decide +kernel) rfl, by decide +kernel, by decide +kernel, by decide +kernel⟩, gw_at 909 (by decide +kernel) rfl, gw_at 910 (by decide +kernel) rfl⟩
theorem me_X4_lost : mEV yX4_lost cX4_lost 2 (some .long) 1 := ⟨⟨gw_at 67 (by decide +kernel) rfl, gw_at 923 (by decide +kernel) rfl, by decide +kernel, by decide +kernel, by decide +kernel⟩, gw_at 922 (by decide +kernel) rfl, gw_at 60 (by decide +kernel) rfl⟩
theorem me_X4_many : mEV yX4_many cX4_many 2 (some .int) 1 := ⟨⟨gw_at 67 (by decide +kernel) rfl, gw_at 955 (by decide +kernel) rfl, by decide +kernel, by decide +kernel, by decide +kernel⟩, gw_at 953 (by decide +kernel) rfl, gw_at 954 (by decide +kernel) rfl⟩
theorem me_X4_manyTouch : mEV yX4_manyTouch cX4_manyTouch 3 (some .int) 0 := ⟨⟨gw_at 67 (by decide +kernel) rfl, gw_at 820 (by decide +kernel) rfl, by decide +kernel, by decide +kernel, by decide +kernel⟩, gw_at 819 (by decide +kernel) rfl, gw_at 49 (by decide +kernel) rfl⟩
theorem me_X4_map : mEV yX4_map cX4_map 8 (some .int) 4 := ⟨⟨gw_at 67 (by decide +kernel) rfl, gw_at 696 (by decide +kernel) rfl, by decide +kernel, by decide +kernel, by decide +kernel⟩, gw_at 694 (by decide +kernel) rfl, gw_at 695 (by decide +kernel) rfl⟩
theorem me_X4_odds : mEV yX4_odds cX4_odds 3 (some .long) 2 := ⟨⟨gw_at 67 (by decide +kernel) rfl, gw_at 899 (by decide +kernel) rfl, by decide +kernel, by decide +kernel, by decide +kernel⟩, gw_at 897 (by decide +kernel) rfl, gw_at 898 (by decide +kernel) rfl⟩
theorem me_X4_ofArea : mEV yX4_ofArea cX4_ofArea 3 (some .int) 2 := ⟨⟨gw_at 67 (by decide +kernel) rfl, gw_at 737 (by decide +kernel) rfl, by decide +kernel, by decide +kernel, by decide +kernel⟩, gw_at 735 (by decide +kernel) rfl, gw_at 736 (by decide +kernel) rfl⟩
theorem me_X4_placeIn : mEV yX4_placeIn cX4_placeIn 4 (some .int) 2 := ⟨⟨gw_at 67 (by decide +kernel) rfl, gw_at 769 (by decide +kernel) rfl, by decide +kernel, by decide +kernel, by decide +kernel⟩, gw_at 768 (by decide +kernel) rfl, gw_at 41 (by decide +kernel) rfl⟩
theorem me_X4_plot : mEV yX4_plot cX4_plot 4 (some .int) 2 := ⟨⟨gw_at 67 (by decide +kernel) rfl, gw_at 800 (by decide +kernel) rfl, by decide +kernel, by decide +kernel, by decide +kernel⟩, gw_at 798 (by decide +kernel) rfl, gw_at 799 (by decide +kernel) rfl⟩
theorem me_X4_put : mEV yX4_put cX4_put 4 (some .int) 3 := ⟨⟨gw_at 67 (by decide +kernel) rfl, gw_at 915 (by decide +kernel) rfl, by decide +kernel, by decide +kernel, by decide +kernel⟩, gw_at 913 (by decide +kernel) rfl, gw_at 914 (by decide +kernel) rfl⟩
theorem me_X4_putBack : mEV yX4_putBack cX4_putBack 2 none 0 := ⟨⟨gw_at 67 (by decide +kernel) rfl, gw_at 855 (by decide +kernel) rfl, by decide +kernel, by decide +kernel, by decide +kernel⟩, gw_at 854 (by decide +kernel) rfl, gw_at 55 (by decide +kernel) rfl⟩
theorem me_X4_readAll : mEV yX4_readAll cX4_readAll 2 (some .boolean) 1 := ⟨⟨gw_at 67 (by decide +kernel) rfl, gw_at 717 (by decide +kernel) rfl, by decide +kernel, by decide +kernel, by decide +kernel⟩, gw_at 716 (by decide +kernel) rfl, gw_at 29 (by decide +kernel) rfl⟩
theorem me_X4_readArea : mEV yX4_readArea cX4_readArea 3 (some .boolean) 1 := ⟨⟨gw_at 67 (by decide +kernel) rfl, gw_at 725 (by decide +kernel) rfl, by decide +kernel, by decide +kernel, by decide +kernel⟩, gw_at 724 (by decide +kernel) rfl, gw_at 31 (by decide +kernel) rfl⟩
theorem me_X4_readOrderNext : mEV yX4_readOrderNext cX4_readOrderNext 6 (some .boolean) 2 := ⟨⟨gw_at 67 (by decide +kernel) rfl, gw_at 733 (by decide +kernel) rfl, by decide +kernel, by decide +kernel, by decide +kernel⟩, gw_at 732 (by decide +kernel) rfl, gw_at 33 (by decide +kernel) rfl⟩
theorem me_X4_reading : mEV yX4_reading cX4_reading 3 (some .int) 2 := ⟨⟨gw_at 67 (by decide +kernel) rfl, gw_at 879 (by decide +kernel) rfl, by decide +kernel, by decide +kernel, by decide +kernel⟩, gw_at 877 (by decide +kernel) rfl, gw_at 878 (by decide +kernel) rfl⟩
theorem me_X4_share : mES yX4_share cX4_share 4 (some .boolean) 4 := ⟨⟨gw_at 67 (by decide +kernel) rfl, gw_at 788 (by decide +kernel) rfl, by decide +kernel, by decide +kernel, by decide +kernel⟩, gw_at 787 (by decide +kernel) rfl⟩
theorem me_X4_sheet : mEV yX4_sheet cX4_sheet 5 (some .int) 3 := ⟨⟨gw_at 67 (by decide +kernel) rfl, gw_at 907 (by decide +kernel) rfl, by decide +kernel, by decide +kernel, by decide +kernel⟩, gw_at 905 (by decide +kernel) rfl, gw_at 906 (by decide +kernel) rfl⟩
theorem me_X4_size : mES yX4_size cX4_size 3 (some .int) 1 := ⟨⟨gw_at 67 (by decide +kernel) rfl, gw_at 823 (by decide +kernel) rfl, by decide +kernel, by decide +kernel, by decide +kernel⟩, gw_at 822 (by decide +kernel) rfl⟩
theorem me_X4_squeeze : mEV yX4_squeeze cX4_squeeze 6 (some .int) 1 := ⟨⟨gw_at 67 (by decide +kernel) rfl, gw_at 827 (by decide +kernel) rfl, by decide +kernel, by decide +kernel, by decide +kernel⟩, gw_at 825 (by decide +kernel) rfl, gw_at 826 (by decide +kernel) rfl⟩
theorem me_X4_survey : mEV yX4_survey cX4_survey 2 (some .int) 1 := ⟨⟨gw_at 67 (by decide +kernel) rfl, gw_at 939 (by decide +kernel) rfl, by decide +kernel, by decide +kernel, by decide +kernel⟩, gw_at 937 (by decide +kernel) rfl, gw_at 938 (by decide +kernel) rfl⟩
theorem me_X4_tell : mEV yX4_tell cX4_tell 3 (some .int) 1 := ⟨⟨gw_at 67 (by decide +kernel) rfl, gw_at 931 (by decide +kernel) rfl, by decide +kernel, by decide +kernel, by decide +kernel⟩, gw_at 929 (by decide +kernel) rfl, gw_at 930 (by decide +kernel) rfl⟩
theorem me_X4_tellDay : mEV yX4_tellDay cX4_tellDay 2 (some .int) 1 := ⟨⟨gw_at 67 (by decide +kernel) rfl, gw_at 851 (by decide +kernel) rfl, by decide +kernel, by decide +kernel, by decide +kernel⟩, gw_at 850 (by decide +kernel) rfl, gw_at 54 (by decide +kernel) rfl⟩
theorem me_X4_touching : mEV yX4_touching cX4_touching 4 (some .int) 1 := ⟨⟨gw_at 67 (by decide +kernel) rfl, gw_at 781 (by decide +kernel) rfl, by decide +kernel, by decide +kernel, by decide +kernel⟩, gw_at 780 (by decide +kernel) rfl, gw_at 44 (by decide +kernel) rfl⟩
theorem me_X4_trace : mEV yX4_trace cX4_trace 1 (some .int) 0 := ⟨⟨gw_at 67 (by decide +kernel) rfl, gw_at 947 (by decide +kernel) rfl, by decide +kernel, by decide +kernel, by decide +kernel⟩, gw_at 945 (by decide +kernel) rfl, gw_at 946 (by decide +kernel) rfl⟩
theorem me_X4_turn : mEV yX4_turn cX4_turn 3 (some .int) 2 := ⟨⟨gw_at 67 (by decide +kernel) rfl, gw_at 804 (by decide +kernel) rfl, by decide +kernel, by decide +kernel, by decide +kernel⟩, gw_at 802 (by decide +kernel) rfl, gw_at 803 (by decide +kernel) rfl⟩
theorem me_X4_turns : mEV yX4_turns cX4_turns 5 none 2 := ⟨⟨gw_at 67 (by decide +kernel) rfl, gw_at 808 (by decide +kernel) rfl, by decide +kernel, by decide +kernel, by decide +kernel⟩, gw_at 807 (by decide +kernel) rfl, gw_at 47 (by decide +kernel) rfl⟩
theorem me_X4_turnsAbout : mEV yX4_turnsAbout cX4_turnsAbout 4 none 2 := ⟨⟨gw_at 67 (by decide +kernel) rfl, gw_at 871 (by decide +kernel) rfl, by decide +kernel, by decide +kernel, by decide +kernel⟩, gw_at 870 (by decide +kernel) rfl, gw_at 58 (by decide +kernel) rfl⟩
theorem me_X4_waste : mEV yX4_waste cX4_waste 3 (some .int) 0 := ⟨⟨gw_at 67 (by decide +kernel) rfl, gw_at 816 (by decide +kernel) rfl, by decide +kernel, by decide +kernel, by decide +kernel⟩, gw_at 815 (by decide +kernel) rfl, gw_at 48 (by decide +kernel) rfl⟩
theorem me_X4_whole : mEV yX4_whole cX4_whole 2 (some .int) 1 := ⟨⟨gw_at 67 (by decide +kernel) rfl, gw_at 812 (by decide +kernel) rfl, by decide +kernel, by decide +kernel, by decide +kernel⟩, gw_at 810 (by decide +kernel) rfl, gw_at 811 (by decide +kernel) rfl⟩
theorem me_X4_widestOf : mEV yX4_widestOf cX4_widestOf 5 (some .int) 1 := ⟨⟨gw_at 67 (by decide +kernel) rfl, gw_at 831 (by decide +kernel) rfl, by decide +kernel, by decide +kernel, by decide +kernel⟩, gw_at 830 (by decide +kernel) rfl, gw_at 50 (by decide +kernel) rfl⟩
theorem me_X4_width : mEV yX4_width cX4_width 4 (some .int) 2 := ⟨⟨gw_at 67 (by decide +kernel) rfl, gw_at 796 (by decide +kernel) rfl, by decide +kernel, by decide +kernel, by decide +kernel⟩, gw_at 794 (by decide +kernel) rfl, gw_at 795 (by decide +kernel) rfl⟩
theorem me_X4_widths : mEV yX4_widths cX4_widths 5 (some .int) 1 := ⟨⟨gw_at 67 (by decide +kernel) rfl, gw_at 895 (by decide +kernel) rfl, by decide +kernel, by decide +kernel, by decide +kernel⟩, gw_at 893 (by decide +kernel) rfl, gw_at 894 (by decide +kernel) rfl⟩
theorem me_X4_wishes : mEV yX4_wishes cX4_wishes 9 (some .int) 4 := ⟨⟨gw_at 67 (by decide +kernel) rfl, gw_at 875 (by decide +kernel) rfl, by decide +kernel, by decide +kernel, by decide +kernel⟩, gw_at 873 (by decide +kernel) rfl, gw_at 874 (by decide +kernel) rfl⟩
theorem me_X4_within : mES yX4_within cX4_within 3 (some .boolean) 3 := ⟨⟨gw_at 67 (by decide +kernel) rfl, gw_at 702 (by decide +kernel) rfl, by decide +kernel, by decide +kernel, by decide +kernel⟩, gw_at 701 (by decide +kernel) rfl⟩
theorem ml_L_13 : Cond.methodLink RL 13 yX3_map ∈ gWd := gw_at 224 (by decide +kernel) rfl
theorem ml_L_17 : Cond.methodLink RL 17 yX4_map ∈ gWd := gw_at 693 (by decide +kernel) rfl
theorem ml_L_18 : Cond.methodLink RL 18 yX3_ofArea ∈ gWd := gw_at 305 (by decide +kernel) rfl
theorem ml_L_22 : Cond.methodLink RL 22 yX4_ofArea ∈ gWd := gw_at 734 (by decide +kernel) rfl
theorem ml_L_23 : Cond.methodLink RL 23 yX3_width ∈ gWd := gw_at 347 (by decide +kernel) rfl
theorem ml_L_26 : Cond.methodLink RL 26 yX4_width ∈ gWd := gw_at 793 (by decide +kernel) rfl
theorem ml_L_27 : Cond.methodLink RL 27 yX3_plot ∈ gWd := gw_at 355 (by decide +kernel) rfl
theorem ml_L_30 : Cond.methodLink RL 30 yX4_plot ∈ gWd := gw_at 797 (by decide +kernel) rfl
theorem ml_L_31 : Cond.methodLink RL 31 yX3_turn ∈ gWd := gw_at 362 (by decide +kernel) rfl
theorem ml_L_34 : Cond.methodLink RL 34 yX4_turn ∈ gWd := gw_at 801 (by decide +kernel) rfl
theorem ml_L_35 : Cond.methodLink RL 35 yX3_whole ∈ gWd := gw_at 380 (by decide +kernel) rfl
theorem ml_L_39 : Cond.methodLink RL 39 yX4_whole ∈ gWd := gw_at 809 (by decide +kernel) rfl
theorem ml_L_40 : Cond.methodLink RL 40 yX3_squeeze ∈ gWd := gw_at 404 (by decide +kernel) rfl
theorem ml_L_43 : Cond.methodLink RL 43 yX4_squeeze ∈ gWd := gw_at 824 (by decide +kernel) rfl
theorem ml_L_44 : Cond.methodLink RL 44 yX3_day ∈ gWd := gw_at 417 (by decide +kernel) rfl
theorem ml_L_48 : Cond.methodLink RL 48 yX4_day ∈ gWd := gw_at 832 (by decide +kernel) rfl
theorem ml_L_49 : Cond.methodLink RL 49 yX3_least ∈ gWd := gw_at 445 (by decide +kernel) rfl
theorem ml_L_52 : Cond.methodLink RL 52 yX4_least ∈ gWd := gw_at 856 (by decide +kernel) rfl
theorem ml_L_53 : Cond.methodLink RL 53 yX3_wishes ∈ gWd := gw_at 464 (by decide +kernel) rfl
theorem ml_L_56 : Cond.methodLink RL 56 yX4_wishes ∈ gWd := gw_at 872 (by decide +kernel) rfl
theorem ml_L_57 : Cond.methodLink RL 57 yX3_reading ∈ gWd := gw_at 473 (by decide +kernel) rfl
theorem ml_L_60 : Cond.methodLink RL 60 yX4_reading ∈ gWd := gw_at 876 (by decide +kernel) rfl
theorem ml_L_61 : Cond.methodLink RL 61 yX3_back ∈ gWd := gw_at 477 (by decide +kernel) rfl
theorem ml_L_64 : Cond.methodLink RL 64 yX4_back ∈ gWd := gw_at 880 (by decide +kernel) rfl
theorem ml_L_65 : Cond.methodLink RL 65 yX3_kinds ∈ gWd := gw_at 481 (by decide +kernel) rfl
theorem ml_L_68 : Cond.methodLink RL 68 yX4_kinds ∈ gWd := gw_at 884 (by decide +kernel) rfl
theorem ml_L_69 : Cond.methodLink RL 69 yX3_widths ∈ gWd := gw_at 489 (by decide +kernel) rfl
theorem ml_L_72 : Cond.methodLink RL 72 yX4_widths ∈ gWd := gw_at 892 (by decide +kernel) rfl
theorem ml_L_73 : Cond.methodLink RL 73 yX3_odds ∈ gWd := gw_at 493 (by decide +kernel) rfl
theorem ml_L_77 : Cond.methodLink RL 77 yX4_odds ∈ gWd := gw_at 896 (by decide +kernel) rfl
theorem ml_L_78 : Cond.methodLink RL 78 yX3_sheet ∈ gWd := gw_at 505 (by decide +kernel) rfl
theorem ml_L_82 : Cond.methodLink RL 82 yX4_sheet ∈ gWd := gw_at 904 (by decide +kernel) rfl
theorem ml_L_83 : Cond.methodLink RL 83 yX3_lose ∈ gWd := gw_at 513 (by decide +kernel) rfl
theorem ml_L_86 : Cond.methodLink RL 86 yX4_lose ∈ gWd := gw_at 908 (by decide +kernel) rfl
theorem ml_L_87 : Cond.methodLink RL 87 yX3_put ∈ gWd := gw_at 517 (by decide +kernel) rfl
theorem ml_L_90 : Cond.methodLink RL 90 yX4_put ∈ gWd := gw_at 912 (by decide +kernel) rfl
theorem ml_L_91 : Cond.methodLink RL 91 yX3_cell ∈ gWd := gw_at 528 (by decide +kernel) rfl
theorem ml_L_95 : Cond.methodLink RL 95 yX4_cell ∈ gWd := gw_at 916 (by decide +kernel) rfl
theorem ml_L_96 : Cond.methodLink RL 96 yX3_copy ∈ gWd := gw_at 532 (by decide +kernel) rfl
theorem ml_L_99 : Cond.methodLink RL 99 yX4_copy ∈ gWd := gw_at 924 (by decide +kernel) rfl
theorem ml_L_100 : Cond.methodLink RL 100 yX3_tell ∈ gWd := gw_at 536 (by decide +kernel) rfl
theorem ml_L_103 : Cond.methodLink RL 103 yX4_tell ∈ gWd := gw_at 928 (by decide +kernel) rfl
theorem ml_L_104 : Cond.methodLink RL 104 yX3_survey ∈ gWd := gw_at 556 (by decide +kernel) rfl
theorem ml_L_107 : Cond.methodLink RL 107 yX4_survey ∈ gWd := gw_at 936 (by decide +kernel) rfl
theorem ml_L_108 : Cond.methodLink RL 108 yX3_as ∈ gWd := gw_at 568 (by decide +kernel) rfl
theorem ml_L_111 : Cond.methodLink RL 111 yX4_as ∈ gWd := gw_at 940 (by decide +kernel) rfl
theorem ml_L_112 : Cond.methodLink RL 112 yX3_trace ∈ gWd := gw_at 572 (by decide +kernel) rfl
theorem ml_L_116 : Cond.methodLink RL 116 yX4_trace ∈ gWd := gw_at 944 (by decide +kernel) rfl
theorem ml_L_117 : Cond.methodLink RL 117 yX3_fault ∈ gWd := gw_at 576 (by decide +kernel) rfl
theorem ml_L_120 : Cond.methodLink RL 120 yX4_fault ∈ gWd := gw_at 948 (by decide +kernel) rfl
theorem ml_L_121 : Cond.methodLink RL 121 yX3_many ∈ gWd := gw_at 580 (by decide +kernel) rfl
theorem ml_L_124 : Cond.methodLink RL 124 yX4_many ∈ gWd := gw_at 952 (by decide +kernel) rfl
theorem ml_X0_51 : Cond.methodLink RX0 51 yX0_lay ∈ gWd := gw_at 282 (by decide +kernel) rfl
theorem ml_X0_54 : Cond.methodLink RX0 54 yX0_swap ∈ gWd := gw_at 377 (by decide +kernel) rfl
theorem ml_X0_58 : Cond.methodLink RX0 58 yX0_findPlaces ∈ gWd := gw_at 286 (by decide +kernel) rfl
theorem ml_X0_67 : Cond.methodLink RX0 67 yX0_heightOf ∈ gWd := gw_at 290 (by decide +kernel) rfl
theorem ml_X0_71 : Cond.methodLink RX0 71 yX0_begin ∈ gWd := gw_at 298 (by decide +kernel) rfl
theorem ml_X0_75 : Cond.methodLink RX0 75 yJ9_max_7cf53 ∈ gWd := gw_at 302 (by decide +kernel) rfl
theorem ml_X0_81 : Cond.methodLink RX0 81 yX0_sizeOf ∈ gWd := gw_at 294 (by decide +kernel) rfl
theorem ml_X0_84 : Cond.methodLink RX0 84 yX0_isLeft ∈ gWd := gw_at 317 (by decide +kernel) rfl
theorem ml_X0_88 : Cond.methodLink RX0 88 yX0_isAbove ∈ gWd := gw_at 325 (by decide +kernel) rfl
theorem ml_X0_91 : Cond.methodLink RX0 91 yX0_touch ∈ gWd := gw_at 333 (by decide +kernel) rfl
theorem ml_X0_94 : Cond.methodLink RX0 94 yX0_touching ∈ gWd := gw_at 392 (by decide +kernel) rfl
theorem ml_X0_97 : Cond.methodLink RX0 97 yJ6_bitCount_0f7a4 ∈ gWd := gw_at 393 (by decide +kernel) rfl
theorem ml_X0_102 : Cond.methodLink RX0 102 yX0_meet ∈ gWd := gw_at 337 (by decide +kernel) rfl
theorem ml_X0_106 : Cond.methodLink RX0 106 yX0_share ∈ gWd := gw_at 340 (by decide +kernel) rfl
theorem ml_X0_109 : Cond.methodLink RX0 109 yX0_isCritical ∈ gWd := gw_at 403 (by decide +kernel) rfl
theorem ml_X0_113 : Cond.methodLink RX0 113 yX0_criticalOnes ∈ gWd := gw_at 412 (by decide +kernel) rfl
theorem ml_X0_117 : Cond.methodLink RX0 117 yX0_widestOf ∈ gWd := gw_at 413 (by decide +kernel) rfl
theorem ml_X1_38 : Cond.methodLink RX1 38 yX1_takesCode ∈ gWd := gw_at 253 (by decide +kernel) rfl
theorem ml_X1_42 : Cond.methodLink RX1 42 yX1_takesAreas ∈ gWd := gw_at 257 (by decide +kernel) rfl
theorem ml_X1_46 : Cond.methodLink RX1 46 yX1_takesOrder ∈ gWd := gw_at 273 (by decide +kernel) rfl
theorem ml_X1_49 : Cond.methodLink RX1 49 yX1_takesArea ∈ gWd := gw_at 261 (by decide +kernel) rfl
theorem ml_X1_52 : Cond.methodLink RX1 52 yX1_takeKind ∈ gWd := gw_at 265 (by decide +kernel) rfl
theorem ml_X1_56 : Cond.methodLink RX1 56 yX1_takeDigit ∈ gWd := gw_at 269 (by decide +kernel) rfl
theorem ml_X3_49 : Cond.methodLink RX3 49 yX3_isSheet ∈ gWd := gw_at 228 (by decide +kernel) rfl
theorem ml_X3_53 : Cond.methodLink RX3 53 yX3_isLane ∈ gWd := gw_at 231 (by decide +kernel) rfl
theorem ml_X3_56 : Cond.methodLink RX3 56 yX2_faultAs ∈ gWd := gw_at 234 (by decide +kernel) rfl
theorem ml_X3_60 : Cond.methodLink RX3 60 yX2_hasCells ∈ gWd := gw_at 238 (by decide +kernel) rfl
theorem ml_X3_64 : Cond.methodLink RX3 64 yX3_failed ∈ gWd := gw_at 242 (by decide +kernel) rfl
theorem ml_X3_70 : Cond.methodLink RX3 70 yX1_takes ∈ gWd := gw_at 246 (by decide +kernel) rfl
theorem ml_X3_80 : Cond.methodLink RX3 80 yX0_becomeLike ∈ gWd := gw_at 277 (by decide +kernel) rfl
theorem ml_X3_90 : Cond.methodLink RX3 90 yX0_hasArea ∈ gWd := gw_at 309 (by decide +kernel) rfl
theorem ml_X3_111 : Cond.methodLink RX3 111 yX0_leftOf ∈ gWd := gw_at 313 (by decide +kernel) rfl
theorem ml_X3_114 : Cond.methodLink RX3 114 yX0_aboveOf ∈ gWd := gw_at 321 (by decide +kernel) rfl
theorem ml_X3_117 : Cond.methodLink RX3 117 yX0_touching ∈ gWd := gw_at 329 (by decide +kernel) rfl
theorem ml_X3_120 : Cond.methodLink RX3 120 yX0_isCritical ∈ gWd := gw_at 343 (by decide +kernel) rfl
theorem ml_X3_130 : Cond.methodLink RX3 130 yX3_isWidth ∈ gWd := gw_at 351 (by decide +kernel) rfl
theorem ml_X3_133 : Cond.methodLink RX3 133 yX0_lay ∈ gWd := gw_at 354 (by decide +kernel) rfl
theorem ml_X3_136 : Cond.methodLink RX3 136 yX3_isPlot ∈ gWd := gw_at 359 (by decide +kernel) rfl
theorem ml_X3_139 : Cond.methodLink RX3 139 yX3_isOrder ∈ gWd := gw_at 366 (by decide +kernel) rfl
theorem ml_X3_142 : Cond.methodLink RX3 142 yX0_hasPlaceBehind ∈ gWd := gw_at 369 (by decide +kernel) rfl
theorem ml_X3_145 : Cond.methodLink RX3 145 yX0_turnPlaces ∈ gWd := gw_at 373 (by decide +kernel) rfl
theorem ml_X3_161 : Cond.methodLink RX3 161 yX0_waste ∈ gWd := gw_at 384 (by decide +kernel) rfl
theorem ml_X3_165 : Cond.methodLink RX3 165 yX0_touchingTwos ∈ gWd := gw_at 388 (by decide +kernel) rfl
theorem ml_X3_168 : Cond.methodLink RX3 168 yX0_criticalOnes ∈ gWd := gw_at 399 (by decide +kernel) rfl
theorem ml_X3_171 : Cond.methodLink RX3 171 yX0_nextToNarrow ∈ gWd := gw_at 408 (by decide +kernel) rfl
theorem ml_X3_174 : Cond.methodLink RX3 174 yX3_isTold ∈ gWd := gw_at 421 (by decide +kernel) rfl
theorem ml_X3_177 : Cond.methodLink RX3 177 yX3_isAskedOfDay ∈ gWd := gw_at 424 (by decide +kernel) rfl
theorem ml_X3_180 : Cond.methodLink RX3 180 yX3_faultOfRow ∈ gWd := gw_at 427 (by decide +kernel) rfl
theorem ml_X3_184 : Cond.methodLink RX3 184 yX3_sortsAreKnown ∈ gWd := gw_at 430 (by decide +kernel) rfl
theorem ml_X3_187 : Cond.methodLink RX3 187 yX3_firstWrong ∈ gWd := gw_at 433 (by decide +kernel) rfl
theorem ml_X3_191 : Cond.methodLink RX3 191 yX3_ofTrial ∈ gWd := gw_at 441 (by decide +kernel) rfl
theorem ml_X3_194 : Cond.methodLink RX3 194 yX3_findLeast ∈ gWd := gw_at 449 (by decide +kernel) rfl
theorem ml_X3_197 : Cond.methodLink RX3 197 yX3_allAreAreas ∈ gWd := gw_at 468 (by decide +kernel) rfl
theorem ml_X3_200 : Cond.methodLink RX3 200 yX0_touch ∈ gWd := gw_at 472 (by decide +kernel) rfl
theorem ml_X3_203 : Cond.methodLink RX3 203 yX3_readingsHold ∈ gWd := gw_at 485 (by decide +kernel) rfl
theorem ml_X3_212 : Cond.methodLink RX3 212 yX3_ordersWithin ∈ gWd := gw_at 498 (by decide +kernel) rfl
theorem ml_X3_215 : Cond.methodLink RX3 215 yX3_commonDivisor ∈ gWd := gw_at 502 (by decide +kernel) rfl
theorem ml_X3_219 : Cond.methodLink RX3 219 yX2_renew ∈ gWd := gw_at 509 (by decide +kernel) rfl
theorem ml_X3_226 : Cond.methodLink RX3 226 yX2_hasCell ∈ gWd := gw_at 521 (by decide +kernel) rfl
theorem ml_X3_232 : Cond.methodLink RX3 232 yX3_cutTo ∈ gWd := gw_at 525 (by decide +kernel) rfl
theorem ml_X3_241 : Cond.methodLink RX3 241 yX3_doubleBody ∈ gWd := gw_at 540 (by decide +kernel) rfl
theorem ml_X3_244 : Cond.methodLink RX3 244 yX3_broadBody ∈ gWd := gw_at 548 (by decide +kernel) rfl
theorem ml_X3_247 : Cond.methodLink RX3 247 yX3_plainBody ∈ gWd := gw_at 552 (by decide +kernel) rfl
theorem ml_X3_250 : Cond.methodLink RX3 250 yX3_ownBody ∈ gWd := gw_at 560 (by decide +kernel) rfl
theorem ml_X3_253 : Cond.methodLink RX3 253 yX3_lentBody ∈ gWd := gw_at 564 (by decide +kernel) rfl
theorem ml_X3_259 : Cond.methodLink RX3 259 yX3_actOnTrial ∈ gWd := gw_at 437 (by decide +kernel) rfl
theorem ml_X3_263 : Cond.methodLink RX3 263 yX0_startOrders ∈ gWd := gw_at 455 (by decide +kernel) rfl
theorem ml_X3_266 : Cond.methodLink RX3 266 yX0_stepOrder ∈ gWd := gw_at 460 (by decide +kernel) rfl
theorem ml_X3_269 : Cond.methodLink RX3 269 yX3_leave ∈ gWd := gw_at 544 (by decide +kernel) rfl
theorem ml_X4_82 : Cond.methodLink RX4 82 yX4_within ∈ gWd := gw_at 700 (by decide +kernel) rfl
theorem ml_X4_92 : Cond.methodLink RX4 92 yX4_isSheet ∈ gWd := gw_at 697 (by decide +kernel) rfl
theorem ml_X4_96 : Cond.methodLink RX4 96 yX4_isSort ∈ gWd := gw_at 703 (by decide +kernel) rfl
theorem ml_X4_99 : Cond.methodLink RX4 99 yX4_against ∈ gWd := gw_at 706 (by decide +kernel) rfl
theorem ml_X4_103 : Cond.methodLink RX4 103 yX4_fails ∈ gWd := gw_at 710 (by decide +kernel) rfl
theorem ml_X4_107 : Cond.methodLink RX4 107 yX4_readAll ∈ gWd := gw_at 714 (by decide +kernel) rfl
theorem ml_X4_116 : Cond.methodLink RX4 116 yX4_isSign ∈ gWd := gw_at 718 (by decide +kernel) rfl
theorem ml_X4_120 : Cond.methodLink RX4 120 yX4_readArea ∈ gWd := gw_at 722 (by decide +kernel) rfl
theorem ml_X4_122 : Cond.methodLink RX4 122 yX4_readOrderNext ∈ gWd := gw_at 730 (by decide +kernel) rfl
theorem ml_X4_125 : Cond.methodLink RX4 125 yX4_digit ∈ gWd := gw_at 726 (by decide +kernel) rfl
theorem ml_X4_132 : Cond.methodLink RX4 132 yX4_placeIn ∈ gWd := gw_at 766 (by decide +kernel) rfl
theorem ml_X4_142 : Cond.methodLink RX4 142 yX4_heightOf ∈ gWd := gw_at 754 (by decide +kernel) rfl
theorem ml_X4_145 : Cond.methodLink RX4 145 yX4_findBreadth ∈ gWd := gw_at 746 (by decide +kernel) rfl
theorem ml_X4_148 : Cond.methodLink RX4 148 yX4_findDepth ∈ gWd := gw_at 750 (by decide +kernel) rfl
theorem ml_X4_151 : Cond.methodLink RX4 151 yX4_share ∈ gWd := gw_at 786 (by decide +kernel) rfl
theorem ml_X4_155 : Cond.methodLink RX4 155 yX4_doTouch ∈ gWd := gw_at 782 (by decide +kernel) rfl
theorem ml_X4_158 : Cond.methodLink RX4 158 yX4_touching ∈ gWd := gw_at 778 (by decide +kernel) rfl
theorem ml_X4_161 : Cond.methodLink RX4 161 yX4_size ∈ gWd := gw_at 821 (by decide +kernel) rfl
theorem ml_X4_164 : Cond.methodLink RX4 164 yX4_findPlaces ∈ gWd := gw_at 742 (by decide +kernel) rfl
theorem ml_X4_167 : Cond.methodLink RX4 167 yX4_isLeft ∈ gWd := gw_at 762 (by decide +kernel) rfl
theorem ml_X4_170 : Cond.methodLink RX4 170 yX4_isAbove ∈ gWd := gw_at 774 (by decide +kernel) rfl
theorem ml_X4_173 : Cond.methodLink RX4 173 yX4_isArea ∈ gWd := gw_at 738 (by decide +kernel) rfl
theorem ml_X4_176 : Cond.methodLink RX4 176 yX4_leftOf ∈ gWd := gw_at 758 (by decide +kernel) rfl
theorem ml_X4_179 : Cond.methodLink RX4 179 yX4_aboveOf ∈ gWd := gw_at 770 (by decide +kernel) rfl
theorem ml_X4_182 : Cond.methodLink RX4 182 yX4_critical ∈ gWd := gw_at 789 (by decide +kernel) rfl
theorem ml_X4_186 : Cond.methodLink RX4 186 yX4_turns ∈ gWd := gw_at 805 (by decide +kernel) rfl
theorem ml_X4_190 : Cond.methodLink RX4 190 yX4_waste ∈ gWd := gw_at 813 (by decide +kernel) rfl
theorem ml_X4_193 : Cond.methodLink RX4 193 yX4_manyTouch ∈ gWd := gw_at 817 (by decide +kernel) rfl
theorem ml_X4_196 : Cond.methodLink RX4 196 yX4_widestOf ∈ gWd := gw_at 828 (by decide +kernel) rfl
theorem ml_X4_199 : Cond.methodLink RX4 199 yX4_does ∈ gWd := gw_at 844 (by decide +kernel) rfl
theorem ml_X4_202 : Cond.methodLink RX4 202 yX4_keep ∈ gWd := gw_at 836 (by decide +kernel) rfl
theorem ml_X4_205 : Cond.methodLink RX4 205 yX4_goDay ∈ gWd := gw_at 840 (by decide +kernel) rfl
theorem ml_X4_208 : Cond.methodLink RX4 208 yX4_tellDay ∈ gWd := gw_at 848 (by decide +kernel) rfl
theorem ml_X4_211 : Cond.methodLink RX4 211 yX4_putBack ∈ gWd := gw_at 852 (by decide +kernel) rfl
theorem ml_X4_214 : Cond.methodLink RX4 214 yX4_turnsAbout ∈ gWd := gw_at 868 (by decide +kernel) rfl
theorem ml_X4_226 : Cond.methodLink RX4 226 yX4_goesOn ∈ gWd := gw_at 864 (by decide +kernel) rfl
theorem ml_X4_230 : Cond.methodLink RX4 230 yX4_findLeast ∈ gWd := gw_at 860 (by decide +kernel) rfl
theorem ml_X4_234 : Cond.methodLink RX4 234 yX4_areSo ∈ gWd := gw_at 888 (by decide +kernel) rfl
theorem ml_X4_237 : Cond.methodLink RX4 237 yX4_inLeastTerms ∈ gWd := gw_at 901 (by decide +kernel) rfl
theorem ml_X4_241 : Cond.methodLink RX4 241 yX4_lost ∈ gWd := gw_at 920 (by decide +kernel) rfl
theorem ml_X4_248 : Cond.methodLink RX4 248 yX4_begins ∈ gWd := gw_at 932 (by decide +kernel) rfl
theorem cp_X1_22 : gCpy RX1 22 := ⟨gw_at 250 (by decide +kernel) rfl, gw_at 252 (by decide +kernel) rfl, gw_at 251 (by decide +kernel) rfl, gw_at 68 (by decide +kernel) rfl⟩
theorem cp_X0_45 : gCpy RX0 45 := ⟨gw_at 281 (by decide +kernel) rfl, gw_at 252 (by decide +kernel) rfl, gw_at 251 (by decide +kernel) rfl, gw_at 68 (by decide +kernel) rfl⟩
theorem mx_X0_75 : gMax RX0 75 := ⟨gw_at 302 (by decide +kernel) rfl, gw_at 303 (by decide +kernel) rfl, gw_at 69 (by decide +kernel) rfl, gw_at 304 (by decide +kernel) rfl⟩
theorem kc_J6_265 : Cond.constant RJ6 265 (1431655765) ∈ gWd := gw_at 396 (by decide +kernel) rfl
theorem kc_J6_266 : Cond.constant RJ6 266 (858993459) ∈ gWd := gw_at 397 (by decide +kernel) rfl
theorem kc_J6_267 : Cond.constant RJ6 267 (252645135) ∈ gWd := gw_at 398 (by decide +kernel) rfl
theorem cp_X3_235 : gCpy RX3 235 := ⟨gw_at 459 (by decide +kernel) rfl, gw_at 252 (by decide +kernel) rfl, gw_at 251 (by decide +kernel) rfl, gw_at 68 (by decide +kernel) rfl⟩
theorem kl_X3_207 : Cond.constantLong RX3 207 (-9223372036854775808) ∈ gWd := gw_at 497 (by decide +kernel) rfl
theorem kl_X4_80 : Cond.constantLong RX4 80 (-9223372036854775808) ∈ gWd := gw_at 900 (by decide +kernel) rfl
end
section
/-! shapes by their places -/
abbrev plF (b : Nat) : List (Option Nat) := [none, some (b + 1), some (b + 2), some (b + 3), some (b + 4), some (b + 5), some (b + 8), some (b + 11), some (b + 12), some (b + 13), none, none]
abbrev aoF : List (Option Nat) := [some 1, some 15, some 29, some 45, some 54, some 55, some 56, none, none, none]
abbrev rdF : List (Option Nat) := [some 30, some 44, none, none, none]
abbrev shF (b : Nat) : List (Option Nat) := [none, none, none, some (b + 1)]
abbrev mdF : List (Option Nat) := [none, none, some 58, some 59, some 60, none, none, some 61, some 62, some 63, some 64, some 65, none, none, some 66, some 67, some 68, some 69, some 70, some 71, some 72, some 73, none, none, some 74, some 75, some 76, some 77, none, none, none, none, some 78, some 79]
def isPl (b : Nat) : Prop := b = 1 ∨ b = 15 ∨ b = 30
def isSh (b : Nat) : Prop := b = 46 ∨ b = 48 ∨ b = 50 ∨ b = 52
theorem sh_0 : sTb[0]? = some (.inl (3, aoF)) := by decide +kernel
theorem sh_29 : sTb[29]? = some (.inl (1, rdF)) := by decide +kernel
theorem sh_57 : sTb[57]? = some (.inl (4, mdF)) := by decide +kernel
theorem sh_45 : sTb[45]? = some (.inr (.inr (0, [46, 48, 50, 52]))) := by decide +kernel
theorem sh_44 : sTb[44]? = some (.inr (.inl 60)) := by decide +kernel
theorem sh_54 : sTb[54]? = some (.inr (.inl 6)) := by decide +kernel
theorem sh_55 : sTb[55]? = some (.inr (.inl 8)) := by decide +kernel
theorem sh_56 : sTb[56]? = some (.inr (.inl 8)) := by decide +kernel
theorem sh_58 : sTb[58]? = some (.inr (.inl 4)) := by decide +kernel
theorem sh_59 : sTb[59]? = some (.inr (.inl 4)) := by decide +kernel
theorem sh_60 : sTb[60]? = some (.inr (.inl 240)) := by decide +kernel
theorem sh_61 : sTb[61]? = some (.inr (.inl 6)) := by decide +kernel
theorem sh_62 : sTb[62]? = some (.inr (.inl 6)) := by decide +kernel
theorem sh_63 : sTb[63]? = some (.inr (.inl 6)) := by decide +kernel
theorem sh_64 : sTb[64]? = some (.inr (.inl 6)) := by decide +kernel
theorem sh_65 : sTb[65]? = some (.inr (.inl 12)) := by decide +kernel
theorem sh_66 : sTb[66]? = some (.inr (.inl 6)) := by decide +kernel
theorem sh_67 : sTb[67]? = some (.inr (.inl 6)) := by decide +kernel
theorem sh_68 : sTb[68]? = some (.inr (.inl 6)) := by decide +kernel
theorem sh_69 : sTb[69]? = some (.inr (.inl 6)) := by decide +kernel
theorem sh_70 : sTb[70]? = some (.inr (.inl 12)) := by decide +kernel
theorem sh_71 : sTb[71]? = some (.inr (.inl 6)) := by decide +kernel
theorem sh_72 : sTb[72]? = some (.inr (.inl 6)) := by decide +kernel
theorem sh_73 : sTb[73]? = some (.inr (.inl 6)) := by decide +kernel
theorem sh_74 : sTb[74]? = some (.inr (.inl 6)) := by decide +kernel
theorem sh_75 : sTb[75]? = some (.inr (.inl 24)) := by decide +kernel
theorem sh_76 : sTb[76]? = some (.inr (.inl 6)) := by decide +kernel
theorem sh_77 : sTb[77]? = some (.inr (.inl 6)) := by decide +kernel
theorem sh_78 : sTb[78]? = some (.inr (.inl 8)) := by decide +kernel
theorem sh_79 : sTb[79]? = some (.inr (.inl 8)) := by decide +kernel
theorem pl_0 {b : Nat} (h : isPl b) : sTb[b]? = some (.inl (0, plF b)) := by
  rcases h with rfl | rfl | rfl <;> decide +kernel
theorem pl_1 {b : Nat} (h : isPl b) : sTb[b + 1]? = some (.inr (.inl 6)) := by
  rcases h with rfl | rfl | rfl <;> decide +kernel
theorem pl_2 {b : Nat} (h : isPl b) : sTb[b + 2]? = some (.inr (.inl 6)) := by
  rcases h with rfl | rfl | rfl <;> decide +kernel
theorem pl_3 {b : Nat} (h : isPl b) : sTb[b + 3]? = some (.inr (.inl 6)) := by
  rcases h with rfl | rfl | rfl <;> decide +kernel
theorem pl_4 {b : Nat} (h : isPl b) : sTb[b + 4]? = some (.inr (.inl 6)) := by
  rcases h with rfl | rfl | rfl <;> decide +kernel
theorem pl_5 {b : Nat} (h : isPl b) : sTb[b + 5]? = some (.inr (.inr (1, [b + 6, b + 7]))) := by
  rcases h with rfl | rfl | rfl <;> decide +kernel
theorem pl_6 {b : Nat} (h : isPl b) : sTb[b + 6]? = some (.inr (.inl 6)) := by
  rcases h with rfl | rfl | rfl <;> decide +kernel
theorem pl_7 {b : Nat} (h : isPl b) : sTb[b + 7]? = some (.inr (.inl 6)) := by
  rcases h with rfl | rfl | rfl <;> decide +kernel
theorem pl_8 {b : Nat} (h : isPl b) : sTb[b + 8]? = some (.inr (.inr (1, [b + 9, b + 10]))) := by
  rcases h with rfl | rfl | rfl <;> decide +kernel
theorem pl_9 {b : Nat} (h : isPl b) : sTb[b + 9]? = some (.inr (.inl 6)) := by
  rcases h with rfl | rfl | rfl <;> decide +kernel
theorem pl_10 {b : Nat} (h : isPl b) : sTb[b + 10]? = some (.inr (.inl 6)) := by
  rcases h with rfl | rfl | rfl <;> decide +kernel
theorem pl_11 {b : Nat} (h : isPl b) : sTb[b + 11]? = some (.inr (.inl 6)) := by
  rcases h with rfl | rfl | rfl <;> decide +kernel
theorem pl_12 {b : Nat} (h : isPl b) : sTb[b + 12]? = some (.inr (.inl 6)) := by
  rcases h with rfl | rfl | rfl <;> decide +kernel
theorem pl_13 {b : Nat} (h : isPl b) : sTb[b + 13]? = some (.inr (.inl 6)) := by
  rcases h with rfl | rfl | rfl <;> decide +kernel
theorem pg_0 {b : Nat} (h : isSh b) : sTb[b]? = some (.inl (2, shF b)) := by
  rcases h with rfl | rfl | rfl | rfl <;> decide +kernel
theorem pg_1 {b : Nat} (h : isSh b) : sTb[b + 1]? = some (.inr (.inl 60)) := by
  rcases h with rfl | rfl | rfl | rfl <;> decide +kernel
theorem ipl_1 : isPl 1 := Or.inl rfl
theorem ipl_15 : isPl 15 := Or.inr (Or.inl rfl)
theorem ipl_30 : isPl 30 := Or.inr (Or.inr rfl)
/-! answers yes or no -/
def bI (c : Bool) : Int32 := if c then 1 else 0
theorem bI_t : bI true = 1 := rfl
theorem bI_f : bI false = 0 := rfl
theorem bI_nar (c : Bool) : narrow .boolean (.int (bI c)) = .int (bI c) := by cases c <;> rfl
theorem nar_1 : narrow .boolean (.int 1) = .int 1 := rfl
theorem nar_0 : narrow .boolean (.int 0) = .int 0 := rfl
section JN
variable {E : gT} {cc : ByteArray} {nL : Nat} {own : String} {ret : Option FieldType} {d : Nat} {K : Option Value → Mm → Prop} {pc : Nat} {lv : List (Option Value)} {st : List Value} {u : Mm}
theorem jb_if_eq {x : Bool} {off : Int} (tgt : Nat) (hd : decode cc pc = .ok (.ifCond .eq off, 3)) (ht : (pc : Int) + off = (tgt : Int)) (kt : x = false → G E cc nL own ret d K tgt lv st u) (kf : x = true → G E cc nL own ret d K (pc + 3) lv st u) : G E cc nL own ret d K pc lv (.int (bI x) :: st) u :=
  jg_if_eq tgt hd ht (fun h => kt (by cases x; rfl; exact absurd h (by decide))) (fun h => kf (by cases x; exact absurd rfl h; rfl))
theorem jb_if_ne {x : Bool} {off : Int} (tgt : Nat) (hd : decode cc pc = .ok (.ifCond .ne off, 3)) (ht : (pc : Int) + off = (tgt : Int)) (kt : x = true → G E cc nL own ret d K tgt lv st u) (kf : x = false → G E cc nL own ret d K (pc + 3) lv st u) : G E cc nL own ret d K pc lv (.int (bI x) :: st) u :=
  jg_if_ne tgt hd ht (fun h => kt (by cases x; exact absurd rfl h; rfl)) (fun h => kf (by cases x; rfl; exact absurd h (by decide)))
theorem jn_icmp_eq (a b : Nat) {x y : Int32} (hx : x = nI a) (hy : y = nI b) (ha : a < 2 ^ 31) (hb : b < 2 ^ 31) {off : Int} (tgt : Nat) (hd : decode cc pc = .ok (.if_icmp .eq off, 3)) (ht : (pc : Int) + off = (tgt : Int)) (kt : a = b → G E cc nL own ret d K tgt lv st u) (kf : ¬ a = b → G E cc nL own ret d K (pc + 3) lv st u) : G E cc nL own ret d K pc lv (.int y :: .int x :: st) u := by
  subst hx; subst hy
  exact jg_icmp_eq tgt hd ht (fun h => kt ((nI_eq ha hb).mp h)) (fun h => kf (fun q => h ((nI_eq ha hb).mpr q)))
theorem jn_icmp_ne (a b : Nat) {x y : Int32} (hx : x = nI a) (hy : y = nI b) (ha : a < 2 ^ 31) (hb : b < 2 ^ 31) {off : Int} (tgt : Nat) (hd : decode cc pc = .ok (.if_icmp .ne off, 3)) (ht : (pc : Int) + off = (tgt : Int)) (kt : ¬ a = b → G E cc nL own ret d K tgt lv st u) (kf : a = b → G E cc nL own ret d K (pc + 3) lv st u) : G E cc nL own ret d K pc lv (.int y :: .int x :: st) u := by
  subst hx; subst hy
  exact jg_icmp_ne tgt hd ht (fun h => kt (fun q => h ((nI_eq ha hb).mpr q))) (fun h => kf ((nI_eq ha hb).mp h))
theorem jn_icmp_lt (a b : Nat) {x y : Int32} (hx : x = nI a) (hy : y = nI b) (ha : a < 2 ^ 31) (hb : b < 2 ^ 31) {off : Int} (tgt : Nat) (hd : decode cc pc = .ok (.if_icmp .lt off, 3)) (ht : (pc : Int) + off = (tgt : Int)) (kt : a < b → G E cc nL own ret d K tgt lv st u) (kf : b ≤ a → G E cc nL own ret d K (pc + 3) lv st u) : G E cc nL own ret d K pc lv (.int y :: .int x :: st) u := by
  subst hx; subst hy
  exact jg_icmp_lt tgt hd ht (fun h => kt ((nI_ltI ha hb).mp h)) (fun h => kf (Nat.not_lt.mp fun q => h ((nI_ltI ha hb).mpr q)))
theorem jn_icmp_ge (a b : Nat) {x y : Int32} (hx : x = nI a) (hy : y = nI b) (ha : a < 2 ^ 31) (hb : b < 2 ^ 31) {off : Int} (tgt : Nat) (hd : decode cc pc = .ok (.if_icmp .ge off, 3)) (ht : (pc : Int) + off = (tgt : Int)) (kt : b ≤ a → G E cc nL own ret d K tgt lv st u) (kf : a < b → G E cc nL own ret d K (pc + 3) lv st u) : G E cc nL own ret d K pc lv (.int y :: .int x :: st) u := by
  subst hx; subst hy
  exact jg_icmp_ge tgt hd ht (fun h => kt ((nI_leI hb ha).mp h)) (fun h => kf (Nat.not_le.mp fun q => h ((nI_leI hb ha).mpr q)))
theorem jn_icmp_gt (a b : Nat) {x y : Int32} (hx : x = nI a) (hy : y = nI b) (ha : a < 2 ^ 31) (hb : b < 2 ^ 31) {off : Int} (tgt : Nat) (hd : decode cc pc = .ok (.if_icmp .gt off, 3)) (ht : (pc : Int) + off = (tgt : Int)) (kt : b < a → G E cc nL own ret d K tgt lv st u) (kf : a ≤ b → G E cc nL own ret d K (pc + 3) lv st u) : G E cc nL own ret d K pc lv (.int y :: .int x :: st) u := by
  subst hx; subst hy
  exact jg_icmp_gt tgt hd ht (fun h => kt ((nI_ltI hb ha).mp h)) (fun h => kf (Nat.not_lt.mp fun q => h ((nI_ltI hb ha).mpr q)))
theorem jn_icmp_le (a b : Nat) {x y : Int32} (hx : x = nI a) (hy : y = nI b) (ha : a < 2 ^ 31) (hb : b < 2 ^ 31) {off : Int} (tgt : Nat) (hd : decode cc pc = .ok (.if_icmp .le off, 3)) (ht : (pc : Int) + off = (tgt : Int)) (kt : a ≤ b → G E cc nL own ret d K tgt lv st u) (kf : b < a → G E cc nL own ret d K (pc + 3) lv st u) : G E cc nL own ret d K pc lv (.int y :: .int x :: st) u := by
  subst hx; subst hy
  exact jg_icmp_le tgt hd ht (fun h => kt ((nI_leI ha hb).mp h)) (fun h => kf (Nat.not_le.mp fun q => h ((nI_leI ha hb).mpr q)))
theorem jn_if_eq (a : Nat) {x : Int32} (hx : x = nI a) (ha : a < 2 ^ 31) {off : Int} (tgt : Nat) (hd : decode cc pc = .ok (.ifCond .eq off, 3)) (ht : (pc : Int) + off = (tgt : Int)) (kt : a = 0 → G E cc nL own ret d K tgt lv st u) (kf : ¬ a = 0 → G E cc nL own ret d K (pc + 3) lv st u) : G E cc nL own ret d K pc lv (.int x :: st) u := by
  subst hx
  exact jg_if_eq tgt hd ht (fun h => kt ((nI_eq ha (by decide)).mp h)) (fun h => kf (fun q => h ((nI_eq ha (by decide)).mpr q)))
theorem jn_if_ne (a : Nat) {x : Int32} (hx : x = nI a) (ha : a < 2 ^ 31) {off : Int} (tgt : Nat) (hd : decode cc pc = .ok (.ifCond .ne off, 3)) (ht : (pc : Int) + off = (tgt : Int)) (kt : ¬ a = 0 → G E cc nL own ret d K tgt lv st u) (kf : a = 0 → G E cc nL own ret d K (pc + 3) lv st u) : G E cc nL own ret d K pc lv (.int x :: st) u := by
  subst hx
  exact jg_if_ne tgt hd ht (fun h => kt (fun q => h ((nI_eq ha (by decide)).mpr q))) (fun h => kf ((nI_eq ha (by decide)).mp h))
end JN
end
section
/-! rows of numbers: orders, places, the longest ways -/
def injOn (o : Nat → Nat) (n : Nat) : Prop := ∀ i j, i < n → j < n → o i = o j → i = j
def isPm (o : Nat → Nat) (n : Nat) : Prop := (∀ i, i < n → o i < n) ∧ injOn o n ∧ ∀ a, a < n → ∃ k, k < n ∧ o k = a
def inv (o : Nat → Nat) (n a : Nat) : Nat := ((List.range n).find? (fun k => o k == a)).getD 0
theorem inv_at {o : Nat → Nat} {n k : Nat} (h : injOn o n) (hk : k < n) : inv o n (o k) = k := by
  unfold inv
  cases hf : (List.range n).find? (fun j => o j == o k) with
  | none =>
    have := List.find?_eq_none.mp hf k (List.mem_range.mpr hk)
    simp at this
  | some j =>
    have h1 := List.find?_some hf
    have h2 := List.mem_of_find?_eq_some hf
    rw [List.mem_range] at h2
    have h3 : o j = o k := by simpa using h1
    exact h j k h2 hk h3
theorem inv_lt {o : Nat → Nat} {n a : Nat} (h : isPm o n) (ha : a < n) : inv o n a < n := by
  obtain ⟨k, hk, rfl⟩ := h.2.2 a ha
  rw [inv_at h.2.1 hk]
  exact hk
theorem inv_o {o : Nat → Nat} {n a : Nat} (h : isPm o n) (ha : a < n) : o (inv o n a) = a := by
  obtain ⟨k, hk, rfl⟩ := h.2.2 a ha
  rw [inv_at h.2.1 hk]
theorem inv_inj {o : Nat → Nat} {n a b : Nat} (h : isPm o n) (ha : a < n) (hb : b < n) (e : inv o n a = inv o n b) : a = b := by
  rw [← inv_o h ha, e, inv_o h hb]
theorem find_congr {l : List Nat} {p q : Nat → Bool} (h : ∀ a ∈ l, p a = q a) : l.find? p = l.find? q := by
  induction l with
  | nil => rfl
  | cons a l ih => simp only [List.find?_cons, h a List.mem_cons_self, ih (fun b hb => h b (List.mem_cons_of_mem _ hb))]
theorem inv_congr {o o' : Nat → Nat} {n : Nat} (a : Nat) (h : ∀ i, i < n → o i = o' i) : inv o n a = inv o' n a := by
  unfold inv
  congr 1
  apply find_congr
  intro k hk
  rw [List.mem_range] at hk
  rw [h k hk]
/-- the greatest of what those ahead reach -/
def mF (c : Nat → Nat → Bool) (w o x : Nat → Nat) (a : Nat) : Nat → Nat
  | 0 => 0
  | q + 1 => if c (o q) a then max (mF c w o x a q) (x (o q) + w (o q)) else mF c w o x a q
/-- where each begins, when k of the order are laid -/
def tT (c : Nat → Nat → Bool) (w o : Nat → Nat) : Nat → Nat → Nat
  | 0 => fun _ => 0
  | k + 1 => fun a => if a = o k then mF c w o (tT c w o k) (o k) k else tT c w o k a
def brF (w o x : Nat → Nat) : Nat → Nat
  | 0 => 0
  | k + 1 => max (brF w o x k) (x (o k) + w (o k))
theorem mF_congr {c c' : Nat → Nat → Bool} {w w' o o' x x' : Nat → Nat} {a a' : Nat} (k : Nat) (hc : ∀ q, q < k → c (o q) a = c' (o' q) a') (hx : ∀ q, q < k → x (o q) + w (o q) = x' (o' q) + w' (o' q)) : mF c w o x a k = mF c' w' o' x' a' k := by
  induction k with
  | zero => rfl
  | succ k ih =>
    unfold mF
    rw [ih (fun q hq => hc q (by omega)) (fun q hq => hx q (by omega)), hc k (by omega), hx k (by omega)]
theorem tT_step {c : Nat → Nat → Bool} {w o : Nat → Nat} {n : Nat} (h : injOn o n) {k : Nat} (hk : k < n) : ∀ m, k < m → m ≤ n → tT c w o m (o k) = mF c w o (tT c w o k) (o k) k := by
  intro m
  induction m with
  | zero => intro h1; omega
  | succ m ih =>
    intro h1 h2
    show (if o k = o m then mF c w o (tT c w o m) (o m) m else tT c w o m (o k)) = _
    by_cases e : k = m
    · subst e
      rw [if_pos rfl]
    · rw [if_neg (fun q => e (h k m hk (by omega) q)), ih (by omega) (by omega)]
/-- what is laid stays: the row at its end -/
theorem tT_eq {c : Nat → Nat → Bool} {w o : Nat → Nat} {n : Nat} (h : injOn o n) {k : Nat} (hk : k < n) : tT c w o n (o k) = mF c w o (tT c w o n) (o k) k := by
  rw [tT_step h hk n hk (Nat.le_refl n)]
  apply mF_congr
  · intro q hq; rfl
  · intro q hq
    rw [tT_step h (k := q) (by omega) n (by omega) (Nat.le_refl n), tT_step h (k := q) (by omega) k hq (by omega)]
theorem mF_le {c : Nat → Nat → Bool} {w o x : Nat → Nat} {a B : Nat} (k : Nat) (hx : ∀ q, q < k → x (o q) + w (o q) ≤ B) : mF c w o x a k ≤ B := by
  induction k with
  | zero => exact Nat.zero_le _
  | succ k ih =>
    unfold mF
    have h1 := ih (fun q hq => hx q (by omega))
    have h2 := hx k (by omega)
    split
    · exact Nat.max_le.mpr ⟨h1, h2⟩
    · exact h1
theorem tT_le {c : Nat → Nat → Bool} {w o : Nat → Nat} {n B : Nat} (h : injOn o n) (hw : ∀ q, q < n → w (o q) ≤ B) : ∀ k, k < n → tT c w o n (o k) ≤ k * B := by
  intro k
  induction k using Nat.strongRecOn with
  | ind k ih =>
    intro hk
    rw [tT_eq h hk]
    refine mF_le k (fun q hq => ?_)
    have h1 := ih q hq (by omega)
    have h2 := hw q (by omega)
    have h3 : (q + 1) * B ≤ k * B := Nat.mul_le_mul_right B (by omega)
    have h4 : (q + 1) * B = q * B + B := by rw [Nat.add_mul, Nat.one_mul]
    omega
theorem brF_congr {w w' o o' x x' : Nat → Nat} (k : Nat) (hx : ∀ q, q < k → x (o q) + w (o q) = x' (o' q) + w' (o' q)) : brF w o x k = brF w' o' x' k := by
  induction k with
  | zero => rfl
  | succ k ih =>
    unfold brF
    rw [ih (fun q hq => hx q (by omega)), hx k (by omega)]
theorem brF_le {w o x : Nat → Nat} {B : Nat} (k : Nat) (hx : ∀ q, q < k → x (o q) + w (o q) ≤ B) : brF w o x k ≤ B := by
  induction k with
  | zero => exact Nat.zero_le _
  | succ k ih =>
    unfold brF
    exact Nat.max_le.mpr ⟨ih (fun q hq => hx q (by omega)), hx k (by omega)⟩
/-! a picture: p 0 0 areas; p 1 kinds, p 2 plots, p 3 widths, p 6 and p 7 the orders -/
abbrev Pic : Type := Nat → Nat → Nat
abbrev pn (p : Pic) : Nat := p 0 0
def szF (p : Pic) (a : Nat) : Nat := if p 1 a = 2 then 2 * p 2 a else if p 1 a = 1 then p 2 a + 1 else p 2 a
def hgF (p : Pic) (a : Nat) : Nat := (szF p a + p 3 a - 1) / p 3 a
/-- a's place in order 0, 1 -/
def p0F (p : Pic) (a : Nat) : Nat := inv (p 6) (pn p) a
def p1F (p : Pic) (a : Nat) : Nat := inv (p 7) (pn p) a
def cX (p : Pic) : Nat → Nat → Bool := fun b a => decide (p1F p b < p1F p a)
def cY (p : Pic) : Nat → Nat → Bool := fun b a => decide (p1F p a < p1F p b)
def xF (p : Pic) : Nat → Nat := tT (cX p) (p 3) (p 6) (pn p)
def yF (p : Pic) : Nat → Nat := tT (cY p) (hgF p) (p 6) (pn p)
def brP (p : Pic) : Nat := brF (p 3) (p 6) (xF p) (pn p)
def dpP (p : Pic) : Nat := brF (hgF p) (p 6) (yF p) (pn p)
/-- the numbers are as they must be -/
def PicOk (p : Pic) : Prop := pn p ≤ 6 ∧ (∀ i, i < pn p → p 1 i < 3 ∧ p 2 i ≤ 9 ∧ p 3 i ≤ 9) ∧ isPm (p 6) (pn p) ∧ isPm (p 7) (pn p)
theorem hgF_le {p : Pic} (h : PicOk p) {a : Nat} (ha : a < pn p) : hgF p a ≤ 18 := by
  obtain ⟨h1, h2, h3⟩ := h.2.1 a ha
  have hs : szF p a ≤ 18 := by unfold szF; split <;> (try split) <;> omega
  unfold hgF
  rcases Nat.eq_zero_or_pos (p 3 a) with e | e
  · rw [e, Nat.div_zero]; omega
  · apply Nat.div_le_of_le_mul
    have : 18 * 1 ≤ 18 * p 3 a := Nat.mul_le_mul_left 18 e
    have h9 : p 3 a * 18 = 17 * p 3 a + p 3 a := by omega
    omega
theorem xF_le {p : Pic} (h : PicOk p) {a : Nat} (ha : a < pn p) : xF p a ≤ 54 := by
  obtain ⟨k, hk, rfl⟩ := h.2.2.1.2.2 a ha
  have h1 := tT_le (c := cX p) (w := p 3) (o := p 6) (B := 9) h.2.2.1.2.1 (fun q hq => (h.2.1 _ (h.2.2.1.1 q hq)).2.2) k hk
  have h2 := h.1
  unfold xF
  omega
theorem yF_le {p : Pic} (h : PicOk p) {a : Nat} (ha : a < pn p) : yF p a ≤ 108 := by
  obtain ⟨k, hk, rfl⟩ := h.2.2.1.2.2 a ha
  have h1 := tT_le (c := cY p) (w := hgF p) (o := p 6) (B := 18) h.2.2.1.2.1 (fun q hq => hgF_le h (h.2.2.1.1 q hq)) k hk
  have h2 := h.1
  unfold yF
  omega
theorem brP_le {p : Pic} (h : PicOk p) : brP p ≤ 63 := brF_le _ (fun q hq => by
  have h0 := h.2.2.1.1 q hq
  have h1 := xF_le h h0
  have h2 := (h.2.1 _ h0).2.2
  omega)
theorem dpP_le {p : Pic} (h : PicOk p) : dpP p ≤ 126 := brF_le _ (fun q hq => by
  have h0 := h.2.2.1.1 q hq
  have h1 := yF_le h h0
  have h2 := hgF_le h h0
  omega)
theorem mxN {a b : Nat} (ha : a < 2 ^ 31) (hb : b < 2 ^ 31) : (if nI a < nI b then nI b else nI a) = nI (max a b) := by
  by_cases h : a < b
  · rw [if_pos ((nI_ltI ha hb).mpr h), Nat.max_eq_right (by omega)]
  · rw [if_neg (fun q => h ((nI_ltI ha hb).mp q)), Nat.max_eq_left (by omega)]
end
section
/-- at least 0 and below c -/
def inN (a c : Int32) : Bool := !decide (a < 0) && !decide (c ≤ a)
/-- of lo .. hi -/
def inR (a lo hi : Int32) : Bool := !decide (a < lo) && !decide (hi < a)
set_option maxHeartbeats 4000000 in
set_option maxRecDepth 20000 in
theorem c0_hasArea (E : gT) {b : Nat} (hb : isPl b) (u : Mm) (a : Int32) : Con E yX0_hasArea cX0_hasArea 2 (some .boolean) 0 [.ref (E.2.1 b), .int a] u (kI (fun r u2 => r = bI (inN a (u b 0)) ∧ u = u2)) := by
  refine Con.of (lv := [some (.ref (E.2.1 b)), some (.int a)]) (by decide +kernel) (Nat.le_of_ble_eq_true rfl) rfl ?_
  refine jg_iload_n dX0_hasArea_0 rfl rfl ?_
  refine jg_if_lt 16 dX0_hasArea_1 (by decide) (fun h_1 => ?_) (fun h_1 => ?_)
  · refine jg_iconst (v := 0) dX0_hasArea_16 (by decide) ?_
    exact jg_iret (rfl) dX0_hasArea_17 ⟨_, rfl, ⟨by simp [bI, inN, *], rfl⟩⟩
  · refine jg_iload_n dX0_hasArea_4 rfl rfl ?_
    refine jg_aload_n dX0_hasArea_5 rfl rfl ?_
    refine jg_geti fk_X0_41 (pl_0 hb) rfl dX0_hasArea_6 ?_
    refine jg_icmp_ge 16 dX0_hasArea_9 (by decide) (fun h_9 => ?_) (fun h_9 => ?_)
    · refine jg_iconst (v := 0) dX0_hasArea_16 (by decide) ?_
      exact jg_iret (rfl) dX0_hasArea_17 ⟨_, rfl, ⟨by simp [bI, inN, *], rfl⟩⟩
    · refine jg_iconst (v := 1) dX0_hasArea_12 (by decide) ?_
      refine jg_goto 17 dX0_hasArea_13 (by decide) ?_
      exact jg_iret (rfl) dX0_hasArea_17 ⟨_, rfl, ⟨by simp [bI, inN, *], rfl⟩⟩
set_option maxHeartbeats 4000000 in
set_option maxRecDepth 20000 in
theorem c0_hasPlaceBehind (E : gT) {b : Nat} (hb : isPl b) (u : Mm) (a : Int32) : Con E yX0_hasPlaceBehind cX0_hasPlaceBehind 2 (some .boolean) 0 [.ref (E.2.1 b), .int a] u (kI (fun r u2 => r = bI (inN a (u b 0 - 1)) ∧ u = u2)) := by
  refine Con.of (lv := [some (.ref (E.2.1 b)), some (.int a)]) (by decide +kernel) (Nat.le_of_ble_eq_true rfl) rfl ?_
  refine jg_iload_n dX0_hasPlaceBehind_0 rfl rfl ?_
  refine jg_if_lt 18 dX0_hasPlaceBehind_1 (by decide) (fun h_1 => ?_) (fun h_1 => ?_)
  · refine jg_iconst (v := 0) dX0_hasPlaceBehind_18 (by decide) ?_
    exact jg_iret (rfl) dX0_hasPlaceBehind_19 ⟨_, rfl, ⟨by simp [bI, inN, *], rfl⟩⟩
  · refine jg_iload_n dX0_hasPlaceBehind_4 rfl rfl ?_
    refine jg_aload_n dX0_hasPlaceBehind_5 rfl rfl ?_
    refine jg_geti fk_X0_41 (pl_0 hb) rfl dX0_hasPlaceBehind_6 ?_
    refine jg_iconst (v := 1) dX0_hasPlaceBehind_9 (by decide) ?_
    refine jg_isub dX0_hasPlaceBehind_10 ?_
    refine jg_icmp_ge 18 dX0_hasPlaceBehind_11 (by decide) (fun h_11 => ?_) (fun h_11 => ?_)
    · refine jg_iconst (v := 0) dX0_hasPlaceBehind_18 (by decide) ?_
      exact jg_iret (rfl) dX0_hasPlaceBehind_19 ⟨_, rfl, ⟨by simp [bI, inN, *], rfl⟩⟩
    · refine jg_iconst (v := 1) dX0_hasPlaceBehind_14 (by decide) ?_
      refine jg_goto 19 dX0_hasPlaceBehind_15 (by decide) ?_
      exact jg_iret (rfl) dX0_hasPlaceBehind_19 ⟨_, rfl, ⟨by simp [bI, inN, *], rfl⟩⟩
set_option maxHeartbeats 4000000 in
set_option maxRecDepth 20000 in
theorem c0_meet (E : gT) (u : Mm) (a la b lb : Int32) : Con E yX0_meet cX0_meet 4 (some .boolean) 0 [.int a, .int la, .int b, .int lb] u (kI (fun r u2 => r = bI (decide (a + la = b) || decide (b + lb = a)) ∧ u = u2)) := by
  refine Con.of (lv := [some (.int a), some (.int la), some (.int b), some (.int lb)]) (by decide +kernel) (Nat.le_of_ble_eq_true rfl) rfl ?_
  refine jg_iload_n dX0_meet_0 rfl rfl ?_
  refine jg_iload_n dX0_meet_1 rfl rfl ?_
  refine jg_iadd dX0_meet_2 ?_
  refine jg_iload_n dX0_meet_3 rfl rfl ?_
  refine jg_icmp_eq 14 dX0_meet_4 (by decide) (fun h_4 => ?_) (fun h_4 => ?_)
  · refine jg_iconst (v := 1) dX0_meet_14 (by decide) ?_
    refine jg_goto 19 dX0_meet_15 (by decide) ?_
    exact jg_iret (rfl) dX0_meet_19 ⟨_, rfl, ⟨by simp [bI, *], rfl⟩⟩
  · refine jg_iload_n dX0_meet_7 rfl rfl ?_
    refine jg_iload_n dX0_meet_8 rfl rfl ?_
    refine jg_iadd dX0_meet_9 ?_
    refine jg_iload_n dX0_meet_10 rfl rfl ?_
    refine jg_icmp_ne 18 dX0_meet_11 (by decide) (fun h_11 => ?_) (fun h_11 => ?_)
    · refine jg_iconst (v := 0) dX0_meet_18 (by decide) ?_
      exact jg_iret (rfl) dX0_meet_19 ⟨_, rfl, ⟨by simp [bI, *], rfl⟩⟩
    · refine jg_iconst (v := 1) dX0_meet_14 (by decide) ?_
      refine jg_goto 19 dX0_meet_15 (by decide) ?_
      exact jg_iret (rfl) dX0_meet_19 ⟨_, rfl, ⟨by simp [bI, *], rfl⟩⟩
set_option maxHeartbeats 4000000 in
set_option maxRecDepth 20000 in
theorem c0_share (E : gT) (u : Mm) (a la b lb : Int32) : Con E yX0_share cX0_share 4 (some .boolean) 0 [.int a, .int la, .int b, .int lb] u (kI (fun r u2 => r = bI (!decide (b + lb ≤ a) && !decide (a + la ≤ b)) ∧ u = u2)) := by
  refine Con.of (lv := [some (.int a), some (.int la), some (.int b), some (.int lb)]) (by decide +kernel) (Nat.le_of_ble_eq_true rfl) rfl ?_
  refine jg_iload_n dX0_share_0 rfl rfl ?_
  refine jg_iload_n dX0_share_1 rfl rfl ?_
  refine jg_iload_n dX0_share_2 rfl rfl ?_
  refine jg_iadd dX0_share_3 ?_
  refine jg_icmp_ge 18 dX0_share_4 (by decide) (fun h_4 => ?_) (fun h_4 => ?_)
  · refine jg_iconst (v := 0) dX0_share_18 (by decide) ?_
    exact jg_iret (rfl) dX0_share_19 ⟨_, rfl, ⟨by simp [bI, *], rfl⟩⟩
  · refine jg_iload_n dX0_share_7 rfl rfl ?_
    refine jg_iload_n dX0_share_8 rfl rfl ?_
    refine jg_iload_n dX0_share_9 rfl rfl ?_
    refine jg_iadd dX0_share_10 ?_
    refine jg_icmp_ge 18 dX0_share_11 (by decide) (fun h_11 => ?_) (fun h_11 => ?_)
    · refine jg_iconst (v := 0) dX0_share_18 (by decide) ?_
      exact jg_iret (rfl) dX0_share_19 ⟨_, rfl, ⟨by simp [bI, *], rfl⟩⟩
    · refine jg_iconst (v := 1) dX0_share_14 (by decide) ?_
      refine jg_goto 19 dX0_share_15 (by decide) ?_
      exact jg_iret (rfl) dX0_share_19 ⟨_, rfl, ⟨by simp [bI, *], rfl⟩⟩
set_option maxHeartbeats 4000000 in
set_option maxRecDepth 20000 in
theorem c2_faultAs (E : gT) {b : Nat} (hb : isSh b) (u : Mm) (a : Int32) : Con E yX2_faultAs cX2_faultAs 2 (some .int) 0 [.ref (E.2.1 b), .int a] u (kI (fun r u2 => r = (if u b 0 = 0 then 1 else if u b 1 = a then 0 else 2) ∧ u = u2)) := by
  refine Con.of (lv := [some (.ref (E.2.1 b)), some (.int a)]) (by decide +kernel) (Nat.le_of_ble_eq_true rfl) rfl ?_
  refine jg_aload_n dX2_faultAs_0 rfl rfl ?_
  refine jg_geti fk_X2_15 (pg_0 hb) rfl dX2_faultAs_1 ?_
  refine jg_if_ne 9 dX2_faultAs_4 (by decide) (fun h_4 => ?_) (fun h_4 => ?_)
  · refine jg_aload_n dX2_faultAs_9 rfl rfl ?_
    refine jg_geti fk_X2_19 (pg_0 hb) rfl dX2_faultAs_10 ?_
    refine jg_iload_n dX2_faultAs_13 rfl rfl ?_
    refine jg_icmp_ne 21 dX2_faultAs_14 (by decide) (fun h_14 => ?_) (fun h_14 => ?_)
    · refine jg_iconst (v := 2) dX2_faultAs_21 (by decide) ?_
      exact jg_iret (rfl) dX2_faultAs_22 ⟨_, rfl, ⟨by simp [*], rfl⟩⟩
    · refine jg_iconst (v := 0) dX2_faultAs_17 (by decide) ?_
      refine jg_goto 22 dX2_faultAs_18 (by decide) ?_
      exact jg_iret (rfl) dX2_faultAs_22 ⟨_, rfl, ⟨by simp [*], rfl⟩⟩
  · refine jg_iconst (v := 1) dX2_faultAs_7 (by decide) ?_
    exact jg_iret (rfl) dX2_faultAs_8 ⟨_, rfl, ⟨by simp [*], rfl⟩⟩
set_option maxHeartbeats 4000000 in
set_option maxRecDepth 20000 in
theorem c2_hasCell (E : gT) {b : Nat} (hb : isSh b) (u : Mm) (a : Int32) : Con E yX2_hasCell cX2_hasCell 2 (some .boolean) 0 [.ref (E.2.1 b), .int a] u (kI (fun r u2 => r = bI (inN a (u b 2)) ∧ u = u2)) := by
  refine Con.of (lv := [some (.ref (E.2.1 b)), some (.int a)]) (by decide +kernel) (Nat.le_of_ble_eq_true rfl) rfl ?_
  refine jg_iload_n dX2_hasCell_0 rfl rfl ?_
  refine jg_if_lt 16 dX2_hasCell_1 (by decide) (fun h_1 => ?_) (fun h_1 => ?_)
  · refine jg_iconst (v := 0) dX2_hasCell_16 (by decide) ?_
    exact jg_iret (rfl) dX2_hasCell_17 ⟨_, rfl, ⟨by simp [bI, inN, *], rfl⟩⟩
  · refine jg_iload_n dX2_hasCell_4 rfl rfl ?_
    refine jg_aload_n dX2_hasCell_5 rfl rfl ?_
    refine jg_geti fk_X2_23 (pg_0 hb) rfl dX2_hasCell_6 ?_
    refine jg_icmp_ge 16 dX2_hasCell_9 (by decide) (fun h_9 => ?_) (fun h_9 => ?_)
    · refine jg_iconst (v := 0) dX2_hasCell_16 (by decide) ?_
      exact jg_iret (rfl) dX2_hasCell_17 ⟨_, rfl, ⟨by simp [bI, inN, *], rfl⟩⟩
    · refine jg_iconst (v := 1) dX2_hasCell_12 (by decide) ?_
      refine jg_goto 17 dX2_hasCell_13 (by decide) ?_
      exact jg_iret (rfl) dX2_hasCell_17 ⟨_, rfl, ⟨by simp [bI, inN, *], rfl⟩⟩
set_option maxHeartbeats 4000000 in
set_option maxRecDepth 20000 in
theorem c2_hasCells (E : gT) {b : Nat} (hb : isSh b) (u : Mm) (i n : Int32) : Con E yX2_hasCells cX2_hasCells 3 (some .boolean) 0 [.ref (E.2.1 b), .int i, .int n] u (kI (fun r u2 => r = bI (!decide (i < 0) && !decide (u b 2 < i) && !decide (n < 0) && !decide (u b 2 - i < n)) ∧ u = u2)) := by
  refine Con.of (lv := [some (.ref (E.2.1 b)), some (.int i), some (.int n)]) (by decide +kernel) (Nat.le_of_ble_eq_true rfl) rfl ?_
  refine jg_iload_n dX2_hasCells_0 rfl rfl ?_
  refine jg_if_lt 30 dX2_hasCells_1 (by decide) (fun h_1 => ?_) (fun h_1 => ?_)
  · refine jg_iconst (v := 0) dX2_hasCells_30 (by decide) ?_
    exact jg_iret (rfl) dX2_hasCells_31 ⟨_, rfl, ⟨by simp [bI, *], rfl⟩⟩
  · refine jg_iload_n dX2_hasCells_4 rfl rfl ?_
    refine jg_aload_n dX2_hasCells_5 rfl rfl ?_
    refine jg_geti fk_X2_23 (pg_0 hb) rfl dX2_hasCells_6 ?_
    refine jg_icmp_gt 30 dX2_hasCells_9 (by decide) (fun h_9 => ?_) (fun h_9 => ?_)
    · refine jg_iconst (v := 0) dX2_hasCells_30 (by decide) ?_
      exact jg_iret (rfl) dX2_hasCells_31 ⟨_, rfl, ⟨by simp [bI, *], rfl⟩⟩
    · refine jg_iload_n dX2_hasCells_12 rfl rfl ?_
      refine jg_if_lt 30 dX2_hasCells_13 (by decide) (fun h_13 => ?_) (fun h_13 => ?_)
      · refine jg_iconst (v := 0) dX2_hasCells_30 (by decide) ?_
        exact jg_iret (rfl) dX2_hasCells_31 ⟨_, rfl, ⟨by simp [bI, *], rfl⟩⟩
      · refine jg_iload_n dX2_hasCells_16 rfl rfl ?_
        refine jg_aload_n dX2_hasCells_17 rfl rfl ?_
        refine jg_geti fk_X2_23 (pg_0 hb) rfl dX2_hasCells_18 ?_
        refine jg_iload_n dX2_hasCells_21 rfl rfl ?_
        refine jg_isub dX2_hasCells_22 ?_
        refine jg_icmp_gt 30 dX2_hasCells_23 (by decide) (fun h_23 => ?_) (fun h_23 => ?_)
        · refine jg_iconst (v := 0) dX2_hasCells_30 (by decide) ?_
          exact jg_iret (rfl) dX2_hasCells_31 ⟨_, rfl, ⟨by simp [bI, *], rfl⟩⟩
        · refine jg_iconst (v := 1) dX2_hasCells_26 (by decide) ?_
          refine jg_goto 31 dX2_hasCells_27 (by decide) ?_
          exact jg_iret (rfl) dX2_hasCells_31 ⟨_, rfl, ⟨by simp [bI, *], rfl⟩⟩
set_option maxHeartbeats 4000000 in
set_option maxRecDepth 20000 in
theorem c3_isSheet (E : gT) (u : Mm) (a : Int32) : Con E yX3_isSheet cX3_isSheet 1 (some .boolean) 0 [.int a] u (kI (fun r u2 => r = bI (inN a 4) ∧ u = u2)) := by
  refine Con.of (lv := [some (.int a)]) (by decide +kernel) (Nat.le_of_ble_eq_true rfl) rfl ?_
  refine jg_iload_n dX3_isSheet_0 rfl rfl ?_
  refine jg_if_lt 13 dX3_isSheet_1 (by decide) (fun h_1 => ?_) (fun h_1 => ?_)
  · refine jg_iconst (v := 0) dX3_isSheet_13 (by decide) ?_
    exact jg_iret (rfl) dX3_isSheet_14 ⟨_, rfl, ⟨by simp [bI, inN, *], rfl⟩⟩
  · refine jg_iload_n dX3_isSheet_4 rfl rfl ?_
    refine jg_iconst (v := 4) dX3_isSheet_5 (by decide) ?_
    refine jg_icmp_ge 13 dX3_isSheet_6 (by decide) (fun h_6 => ?_) (fun h_6 => ?_)
    · refine jg_iconst (v := 0) dX3_isSheet_13 (by decide) ?_
      exact jg_iret (rfl) dX3_isSheet_14 ⟨_, rfl, ⟨by simp [bI, inN, *], rfl⟩⟩
    · refine jg_iconst (v := 1) dX3_isSheet_9 (by decide) ?_
      refine jg_goto 14 dX3_isSheet_10 (by decide) ?_
      exact jg_iret (rfl) dX3_isSheet_14 ⟨_, rfl, ⟨by simp [bI, inN, *], rfl⟩⟩
set_option maxHeartbeats 4000000 in
set_option maxRecDepth 20000 in
theorem c3_isLane (E : gT) (u : Mm) (a : Int32) : Con E yX3_isLane cX3_isLane 1 (some .boolean) 0 [.int a] u (kI (fun r u2 => r = bI (inR a 0 2) ∧ u = u2)) := by
  refine Con.of (lv := [some (.int a)]) (by decide +kernel) (Nat.le_of_ble_eq_true rfl) rfl ?_
  refine jg_iload_n dX3_isLane_0 rfl rfl ?_
  refine jg_if_lt 13 dX3_isLane_1 (by decide) (fun h_1 => ?_) (fun h_1 => ?_)
  · refine jg_iconst (v := 0) dX3_isLane_13 (by decide) ?_
    exact jg_iret (rfl) dX3_isLane_14 ⟨_, rfl, ⟨by simp [bI, inR, *], rfl⟩⟩
  · refine jg_iload_n dX3_isLane_4 rfl rfl ?_
    refine jg_iconst (v := 2) dX3_isLane_5 (by decide) ?_
    refine jg_icmp_gt 13 dX3_isLane_6 (by decide) (fun h_6 => ?_) (fun h_6 => ?_)
    · refine jg_iconst (v := 0) dX3_isLane_13 (by decide) ?_
      exact jg_iret (rfl) dX3_isLane_14 ⟨_, rfl, ⟨by simp [bI, inR, *], rfl⟩⟩
    · refine jg_iconst (v := 1) dX3_isLane_9 (by decide) ?_
      refine jg_goto 14 dX3_isLane_10 (by decide) ?_
      exact jg_iret (rfl) dX3_isLane_14 ⟨_, rfl, ⟨by simp [bI, inR, *], rfl⟩⟩
set_option maxHeartbeats 4000000 in
set_option maxRecDepth 20000 in
theorem c3_isOrder (E : gT) (u : Mm) (a : Int32) : Con E yX3_isOrder cX3_isOrder 1 (some .boolean) 0 [.int a] u (kI (fun r u2 => r = bI (decide (a = 0) || decide (a = 1)) ∧ u = u2)) := by
  refine Con.of (lv := [some (.int a)]) (by decide +kernel) (Nat.le_of_ble_eq_true rfl) rfl ?_
  refine jg_iload_n dX3_isOrder_0 rfl rfl ?_
  refine jg_if_eq 9 dX3_isOrder_1 (by decide) (fun h_1 => ?_) (fun h_1 => ?_)
  · refine jg_iconst (v := 1) dX3_isOrder_9 (by decide) ?_
    refine jg_goto 14 dX3_isOrder_10 (by decide) ?_
    exact jg_iret (rfl) dX3_isOrder_14 ⟨_, rfl, ⟨by simp [bI, *], rfl⟩⟩
  · refine jg_iload_n dX3_isOrder_4 rfl rfl ?_
    refine jg_iconst (v := 1) dX3_isOrder_5 (by decide) ?_
    refine jg_icmp_ne 13 dX3_isOrder_6 (by decide) (fun h_6 => ?_) (fun h_6 => ?_)
    · refine jg_iconst (v := 0) dX3_isOrder_13 (by decide) ?_
      exact jg_iret (rfl) dX3_isOrder_14 ⟨_, rfl, ⟨by simp [bI, *], rfl⟩⟩
    · refine jg_iconst (v := 1) dX3_isOrder_9 (by decide) ?_
      refine jg_goto 14 dX3_isOrder_10 (by decide) ?_
      exact jg_iret (rfl) dX3_isOrder_14 ⟨_, rfl, ⟨by simp [bI, *], rfl⟩⟩
set_option maxHeartbeats 4000000 in
set_option maxRecDepth 20000 in
theorem c3_isWidth (E : gT) (u : Mm) (a : Int32) : Con E yX3_isWidth cX3_isWidth 1 (some .boolean) 0 [.int a] u (kI (fun r u2 => r = bI (inR a 1 9) ∧ u = u2)) := by
  refine Con.of (lv := [some (.int a)]) (by decide +kernel) (Nat.le_of_ble_eq_true rfl) rfl ?_
  refine jg_iload_n dX3_isWidth_0 rfl rfl ?_
  refine jg_iconst (v := 1) dX3_isWidth_1 (by decide) ?_
  refine jg_icmp_lt 15 dX3_isWidth_2 (by decide) (fun h_2 => ?_) (fun h_2 => ?_)
  · refine jg_iconst (v := 0) dX3_isWidth_15 (by decide) ?_
    exact jg_iret (rfl) dX3_isWidth_16 ⟨_, rfl, ⟨by simp [bI, inR, *], rfl⟩⟩
  · refine jg_iload_n dX3_isWidth_5 rfl rfl ?_
    refine jg_bipush (v := 9) dX3_isWidth_6 (by decide) ?_
    refine jg_icmp_gt 15 dX3_isWidth_8 (by decide) (fun h_8 => ?_) (fun h_8 => ?_)
    · refine jg_iconst (v := 0) dX3_isWidth_15 (by decide) ?_
      exact jg_iret (rfl) dX3_isWidth_16 ⟨_, rfl, ⟨by simp [bI, inR, *], rfl⟩⟩
    · refine jg_iconst (v := 1) dX3_isWidth_11 (by decide) ?_
      refine jg_goto 16 dX3_isWidth_12 (by decide) ?_
      exact jg_iret (rfl) dX3_isWidth_16 ⟨_, rfl, ⟨by simp [bI, inR, *], rfl⟩⟩
set_option maxHeartbeats 4000000 in
set_option maxRecDepth 20000 in
theorem c3_isPlot (E : gT) (u : Mm) (a : Int32) : Con E yX3_isPlot cX3_isPlot 1 (some .boolean) 0 [.int a] u (kI (fun r u2 => r = bI (inR a 1 9) ∧ u = u2)) := by
  refine Con.of (lv := [some (.int a)]) (by decide +kernel) (Nat.le_of_ble_eq_true rfl) rfl ?_
  refine jg_iload_n dX3_isPlot_0 rfl rfl ?_
  refine jg_iconst (v := 1) dX3_isPlot_1 (by decide) ?_
  refine jg_icmp_lt 15 dX3_isPlot_2 (by decide) (fun h_2 => ?_) (fun h_2 => ?_)
  · refine jg_iconst (v := 0) dX3_isPlot_15 (by decide) ?_
    exact jg_iret (rfl) dX3_isPlot_16 ⟨_, rfl, ⟨by simp [bI, inR, *], rfl⟩⟩
  · refine jg_iload_n dX3_isPlot_5 rfl rfl ?_
    refine jg_bipush (v := 9) dX3_isPlot_6 (by decide) ?_
    refine jg_icmp_gt 15 dX3_isPlot_8 (by decide) (fun h_8 => ?_) (fun h_8 => ?_)
    · refine jg_iconst (v := 0) dX3_isPlot_15 (by decide) ?_
      exact jg_iret (rfl) dX3_isPlot_16 ⟨_, rfl, ⟨by simp [bI, inR, *], rfl⟩⟩
    · refine jg_iconst (v := 1) dX3_isPlot_11 (by decide) ?_
      refine jg_goto 16 dX3_isPlot_12 (by decide) ?_
      exact jg_iret (rfl) dX3_isPlot_16 ⟨_, rfl, ⟨by simp [bI, inR, *], rfl⟩⟩
set_option maxHeartbeats 4000000 in
set_option maxRecDepth 20000 in
theorem c3_isTold (E : gT) (u : Mm) (a : Int32) : Con E yX3_isTold cX3_isTold 1 (some .boolean) 0 [.int a] u (kI (fun r u2 => r = bI (inR a 0 20) ∧ u = u2)) := by
  refine Con.of (lv := [some (.int a)]) (by decide +kernel) (Nat.le_of_ble_eq_true rfl) rfl ?_
  refine jg_iload_n dX3_isTold_0 rfl rfl ?_
  refine jg_if_lt 14 dX3_isTold_1 (by decide) (fun h_1 => ?_) (fun h_1 => ?_)
  · refine jg_iconst (v := 0) dX3_isTold_14 (by decide) ?_
    exact jg_iret (rfl) dX3_isTold_15 ⟨_, rfl, ⟨by simp [bI, inR, *], rfl⟩⟩
  · refine jg_iload_n dX3_isTold_4 rfl rfl ?_
    refine jg_bipush (v := 20) dX3_isTold_5 (by decide) ?_
    refine jg_icmp_gt 14 dX3_isTold_7 (by decide) (fun h_7 => ?_) (fun h_7 => ?_)
    · refine jg_iconst (v := 0) dX3_isTold_14 (by decide) ?_
      exact jg_iret (rfl) dX3_isTold_15 ⟨_, rfl, ⟨by simp [bI, inR, *], rfl⟩⟩
    · refine jg_iconst (v := 1) dX3_isTold_10 (by decide) ?_
      refine jg_goto 15 dX3_isTold_11 (by decide) ?_
      exact jg_iret (rfl) dX3_isTold_15 ⟨_, rfl, ⟨by simp [bI, inR, *], rfl⟩⟩
set_option maxHeartbeats 4000000 in
set_option maxRecDepth 20000 in
theorem c3_failed (E : gT) (u : Mm) (a : Int32) : Con E yX3_failed cX3_failed 2 (some .int) 0 [.ref (E.2.1 0), .int a] u (kI (fun r u2 => r = -10 - a ∧ u2 = s2 u 0 9 a)) := by
  refine Con.of (lv := [some (.ref (E.2.1 0)), some (.int a)]) (by decide +kernel) (Nat.le_of_ble_eq_true rfl) rfl ?_
  refine jg_aload_n dX3_failed_0 rfl rfl ?_
  refine jg_iload_n dX3_failed_1 rfl rfl ?_
  refine jg_puti fp_X3_45 sh_0 rfl dX3_failed_2 ?_
  refine jg_bipush (v := -10) dX3_failed_5 (by decide) ?_
  refine jg_iload_n dX3_failed_7 rfl rfl ?_
  refine jg_isub dX3_failed_8 ?_
  exact jg_iret (rfl) dX3_failed_9 ⟨_, rfl, ⟨rfl, rfl⟩⟩
set_option maxHeartbeats 4000000 in
set_option maxRecDepth 20000 in
theorem c3_leave (E : gT) (u : Mm) (a : Int32) : Con E yX3_leave cX3_leave 2 none 0 [.ref (E.2.1 0), .int a] u (kV (fun u2 => u2 = s2 u 0 8 (31 * u 0 8 + a))) := by
  refine Con.of (lv := [some (.ref (E.2.1 0)), some (.int a)]) (by decide +kernel) (Nat.le_of_ble_eq_true rfl) rfl ?_
  refine jg_aload_n dX3_leave_0 rfl rfl ?_
  refine jg_bipush (v := 31) dX3_leave_1 (by decide) ?_
  refine jg_aload_n dX3_leave_3 rfl rfl ?_
  refine jg_geti fk_X3_256 sh_0 rfl dX3_leave_4 ?_
  refine jg_imul dX3_leave_7 ?_
  refine jg_iload_n dX3_leave_8 rfl rfl ?_
  refine jg_iadd dX3_leave_9 ?_
  refine jg_puti fp_X3_256 sh_0 rfl dX3_leave_10 ?_
  exact jg_vret dX3_leave_13 ⟨rfl, rfl⟩
end
section
theorem s2_self (m : Mm) (k j : Nat) (v : Int32) : s2 m k j v k j = v := by rw [s2_at]; exact pk_us
theorem s2_ne {m : Mm} {k j i : Nat} {v : Int32} (h : i ≠ j) : s2 m k j v k i = m k i := by rw [s2_at]; exact pk_un h
/-- the plan at b holds the picture p -/
def PlB (b : Nat) (u : Mm) (p : Pic) : Prop := u b 0 = nI (pn p) ∧ ∀ i, i < pn p → u (b + 1) i = nI (p 1 i) ∧ u (b + 2) i = nI (p 2 i) ∧ u (b + 3) i = nI (p 3 i) ∧ u (b + 6) i = nI (p 6 i) ∧ u (b + 7) i = nI (p 7 i)
/-- .. and is laid -/
def PlL (b : Nat) (u : Mm) (p : Pic) : Prop := PlB b u p ∧ (∀ a, a < pn p → u (b + 9) a = nI (p0F p a) ∧ u (b + 10) a = nI (p1F p a) ∧ u (b + 11) a = nI (hgF p a) ∧ u (b + 12) a = nI (xF p a) ∧ u (b + 13) a = nI (yF p a)) ∧ u b 10 = nI (brP p) ∧ u b 11 = nI (dpP p)
/-- what laying may change -/
def LF (b : Nat) (u v : Mm) : Prop := (∀ k, k ≠ b → (k < b + 9 ∨ b + 13 < k) → v k = u k) ∧ ∀ j, j ≠ 10 → j ≠ 11 → v b j = u b j
theorem LF.rf {b : Nat} {u : Mm} : LF b u u := ⟨fun _ _ _ => rfl, fun _ _ _ => rfl⟩
theorem LF.tr {b : Nat} {u v w : Mm} (h : LF b u v) (h2 : LF b v w) : LF b u w := ⟨fun k h1 h3 => (h2.1 k h1 h3).trans (h.1 k h1 h3), fun j h1 h3 => (h2.2 j h1 h3).trans (h.2 j h1 h3)⟩
theorem LF.row {b k j : Nat} {u v : Mm} {x : Int32} (h : LF b u v) (h1 : b + 9 ≤ k) (h2 : k ≤ b + 13) : LF b u (s2 v k j x) := ⟨fun a ha hb => by rw [s2_row (by omega)]; exact h.1 a ha hb, fun i hi hi2 => by rw [s2_row (by omega)]; exact h.2 i hi hi2⟩
theorem LF.fld {b j : Nat} {u v : Mm} {x : Int32} (h : LF b u v) (h1 : j = 10 ∨ j = 11) : LF b u (s2 v b j x) := ⟨fun a ha hb => by rw [s2_row (by omega)]; exact h.1 a ha hb, fun i hi hi2 => by rw [s2_ne (by omega)]; exact h.2 i hi hi2⟩
theorem PlB.fr {b : Nat} {u v : Mm} {p : Pic} (h : PlB b u p) (f : LF b u v) : PlB b v p := by
  refine ⟨(f.2 0 (by omega) (by omega)).trans h.1, fun i hi => ?_⟩
  rw [f.1 (b + 1) (by omega) (by omega), f.1 (b + 2) (by omega) (by omega), f.1 (b + 3) (by omega) (by omega), f.1 (b + 6) (by omega) (by omega), f.1 (b + 7) (by omega) (by omega)]
  exact h.2 i hi
theorem upd_run {f : Nat → Int32} {o : Nat → Nat} {n i : Nat} (hj : injOn o n) (hi : i < n) (h : ∀ q, q < i → f (o q) = nI q) : ∀ q, q < i + 1 → upd f (o i) (nI i) (o q) = nI q := by
  intro q hq
  by_cases e : q = i
  · subst e; exact pk_us
  · rw [pk_un (fun z => e (hj q i (by omega) hi z))]
    exact h q (by omega)
theorem xF_eq {p : Pic} (h : PicOk p) {k : Nat} (hk : k < pn p) : xF p (p 6 k) = mF (cX p) (p 3) (p 6) (xF p) (p 6 k) k := tT_eq h.2.2.1.2.1 hk
theorem yF_eq {p : Pic} (h : PicOk p) {k : Nat} (hk : k < pn p) : yF p (p 6 k) = mF (cY p) (hgF p) (p 6) (yF p) (p 6 k) k := tT_eq h.2.2.1.2.1 hk
end
section
set_option maxHeartbeats 4000000 in
set_option maxRecDepth 20000 in
theorem c0_findPlaces (E : gT) {b : Nat} (hb : isPl b) (u : Mm) (p : Pic) (hp : PicOk p) (hP : PlB b u p) : Con E yX0_findPlaces cX0_findPlaces 2 none 0 [.ref (E.2.1 b)] u (kV (fun u2 => (∀ k, k ≠ b + 9 → k ≠ b + 10 → u2 k = u k) ∧ ∀ i, i < pn p → u2 (b + 9) (p 6 i) = nI i ∧ u2 (b + 10) (p 7 i) = nI i)) := by
  have hn := hp.1
  refine Con.of (lv := [some (.ref (E.2.1 b)), none]) (by decide +kernel) (Nat.le_of_ble_eq_true rfl) rfl ?_
  refine jg_iconst (v := 0) dX0_findPlaces_0 (by decide) ?_
  refine jg_istore_n dX0_findPlaces_1 rfl (by decide) rfl ?_
  have cut_2 : ∀ (m i : Nat) (v : Mm), i ≤ pn p → pn p < i + m → (∀ k, k ≠ b + 9 → k ≠ b + 10 → v k = u k) → (∀ q, q < i → v (b + 9) (p 6 q) = nI q ∧ v (b + 10) (p 7 q) = nI q) → G E cX0_findPlaces 2 (yX0_findPlaces).cls none 0 (kV (fun u2 => (∀ k, k ≠ b + 9 → k ≠ b + 10 → u2 k = u k) ∧ ∀ i, i < pn p → u2 (b + 9) (p 6 i) = nI i ∧ u2 (b + 10) (p 7 i) = nI i)) 2 [some (.ref (E.2.1 b)), some (.int (nI i))] [] v := by
    intro m
    induction m with
    | zero => intro i v h1 h2; omega
    | succ m ih =>
      intro i v hi hm hfr hq
      refine jg_iload_n dX0_findPlaces_2 rfl rfl ?_
      refine jg_aload_n dX0_findPlaces_3 rfl rfl ?_
      refine jg_geti fk_X0_41 (pl_0 hb) rfl dX0_findPlaces_4 ?_
      refine jg_top (y := nI (pn p)) ((congrFun (hfr b (by omega) (by omega)) 0).trans hP.1) ?_
      refine jn_icmp_ge i (pn p) rfl rfl (by omega) (by omega) 48 dX0_findPlaces_7 (by decide) (fun h_7 => ?_) (fun h_7 => ?_)
      · exact jg_vret dX0_findPlaces_48 ⟨rfl, ⟨hfr, fun q hq2 => hq q (by omega)⟩⟩
      · have h6 := hp.2.2.1.1 i h_7
        have h7 := hp.2.2.2.1 i h_7
        refine jg_aload_n dX0_findPlaces_10 rfl rfl ?_
        refine jg_getr fk_X0_29 (pl_0 hb) rfl dX0_findPlaces_11 ?_
        refine jg_iconst (v := 0) dX0_findPlaces_14 (by decide) ?_
        refine jg_aald 0 (pl_8 hb) rfl (Nat.le_of_ble_eq_true rfl) rfl dX0_findPlaces_15 ?_
        refine jg_aload_n dX0_findPlaces_16 rfl rfl ?_
        refine jg_getr fk_X0_26 (pl_0 hb) rfl dX0_findPlaces_17 ?_
        refine jg_iconst (v := 0) dX0_findPlaces_20 (by decide) ?_
        refine jg_aald 0 (pl_5 hb) rfl (Nat.le_of_ble_eq_true rfl) rfl dX0_findPlaces_21 ?_
        refine jg_iload_n dX0_findPlaces_22 rfl rfl ?_
        refine jg_ld i (pl_6 hb) (by omega) (rfl) dX0_findPlaces_23 ?_
        refine jg_top (y := nI (p 6 i)) (by rw [hfr (b + 6) (by omega) (by omega)]; exact (hP.2 i h_7).2.2.2.1) ?_
        refine jg_iload_n dX0_findPlaces_24 rfl rfl ?_
        refine jg_st (p 6 i) (pl_9 hb) (by omega) (rfl) dX0_findPlaces_25 ?_
        refine jg_aload_n dX0_findPlaces_26 rfl rfl ?_
        refine jg_getr fk_X0_29 (pl_0 hb) rfl dX0_findPlaces_27 ?_
        refine jg_iconst (v := 1) dX0_findPlaces_30 (by decide) ?_
        refine jg_aald 1 (pl_8 hb) rfl (Nat.le_of_ble_eq_true rfl) rfl dX0_findPlaces_31 ?_
        refine jg_aload_n dX0_findPlaces_32 rfl rfl ?_
        refine jg_getr fk_X0_26 (pl_0 hb) rfl dX0_findPlaces_33 ?_
        refine jg_iconst (v := 1) dX0_findPlaces_36 (by decide) ?_
        refine jg_aald 1 (pl_5 hb) rfl (Nat.le_of_ble_eq_true rfl) rfl dX0_findPlaces_37 ?_
        refine jg_iload_n dX0_findPlaces_38 rfl rfl ?_
        refine jg_ld i (pl_7 hb) (by omega) (rfl) dX0_findPlaces_39 ?_
        refine jg_top (y := nI (p 7 i)) (by rw [s2_row (by omega), hfr (b + 7) (by omega) (by omega)]; exact (hP.2 i h_7).2.2.2.2) ?_
        refine jg_iload_n dX0_findPlaces_40 rfl rfl ?_
        refine jg_st (p 7 i) (pl_10 hb) (by omega) (rfl) dX0_findPlaces_41 ?_
        refine jg_iinc (v := nI (i + 1)) dX0_findPlaces_42 rfl (nI_1 i) (by decide) rfl ?_
        refine jg_goto 2 dX0_findPlaces_45 (by decide) ?_
        exact ih (i + 1) _ (by omega) (by omega) (fun k h1 h2 => by rw [s2_row h2, s2_row h1]; exact hfr k h1 h2) (fun q h => ⟨by rw [s2_row (by omega), s2_at]; exact upd_run hp.2.2.1.2.1 h_7 (fun a ha => (hq a ha).1) q h, by rw [s2_at, s2_row (by omega)]; exact upd_run hp.2.2.2.2.1 h_7 (fun a ha => (hq a ha).2) q h⟩)
  exact cut_2 (pn p + 1) 0 u (Nat.zero_le _) (by omega) (fun _ _ _ => rfl) (fun q h => by omega)
set_option maxHeartbeats 4000000 in
set_option maxRecDepth 20000 in
theorem c0_sizeOf (E : gT) {b : Nat} (hb : isPl b) (u : Mm) (p : Pic) (hp : PicOk p) (hP : PlB b u p) (i : Nat) (hi : i < pn p) : Con E yX0_sizeOf cX0_sizeOf 2 (some .int) 0 [.ref (E.2.1 b), .int (nI i)] u (kI (fun r u2 => r = nI (szF p i) ∧ u = u2)) := by
  have hn := hp.1
  have hk := (hp.2.1 i hi).1
  refine Con.of (lv := [some (.ref (E.2.1 b)), some (.int (nI i))]) (by decide +kernel) (Nat.le_of_ble_eq_true rfl) rfl ?_
  refine jg_aload_n dX0_sizeOf_0 rfl rfl ?_
  refine jg_getr fk_X0_9 (pl_0 hb) rfl dX0_sizeOf_1 ?_
  refine jg_iload_n dX0_sizeOf_4 rfl rfl ?_
  refine jg_ld i (pl_1 hb) (by omega) (rfl) dX0_sizeOf_5 ?_
  refine jg_top (y := nI (p 1 i)) ((hP.2 i hi).1) ?_
  rcases (show p 1 i = 2 ∨ p 1 i = 1 ∨ p 1 i = 0 by omega) with e | e | e
  · refine jg_top (congrArg nI e) ?_
    refine jg_lookup (off := 26) 32 dX0_sizeOf_6 (by decide +kernel) (by decide +kernel) (by decide) ?_
    refine jg_iconst (v := 2) dX0_sizeOf_32 (by decide) ?_
    refine jg_aload_n dX0_sizeOf_33 rfl rfl ?_
    refine jg_getr fk_X0_15 (pl_0 hb) rfl dX0_sizeOf_34 ?_
    refine jg_iload_n dX0_sizeOf_37 rfl rfl ?_
    refine jg_ld i (pl_2 hb) (by omega) (rfl) dX0_sizeOf_38 ?_
    refine jg_top (y := nI (p 2 i)) ((hP.2 i hi).2.1) ?_
    refine jg_imulE (z := nI (2 * (p 2 i))) dX0_sizeOf_39 (pk_mul 2 (p 2 i)) ?_
    exact jg_iret (rfl) dX0_sizeOf_40 ⟨_, rfl, ⟨by simp [szF, e], rfl⟩⟩
  · refine jg_top (congrArg nI e) ?_
    refine jg_lookup (off := 35) 41 dX0_sizeOf_6 (by decide +kernel) (by decide +kernel) (by decide) ?_
    refine jg_aload_n dX0_sizeOf_41 rfl rfl ?_
    refine jg_getr fk_X0_15 (pl_0 hb) rfl dX0_sizeOf_42 ?_
    refine jg_iload_n dX0_sizeOf_45 rfl rfl ?_
    refine jg_ld i (pl_2 hb) (by omega) (rfl) dX0_sizeOf_46 ?_
    refine jg_top (y := nI (p 2 i)) ((hP.2 i hi).2.1) ?_
    refine jg_iconst (v := 1) dX0_sizeOf_47 (by decide) ?_
    refine jg_iaddE (z := nI ((p 2 i) + 1)) dX0_sizeOf_48 (nI_add (p 2 i) 1) ?_
    exact jg_iret (rfl) dX0_sizeOf_49 ⟨_, rfl, ⟨by simp [szF, e], rfl⟩⟩
  · refine jg_top (congrArg nI e) ?_
    refine jg_lookup (off := 44) 50 dX0_sizeOf_6 (by decide +kernel) (by decide +kernel) (by decide) ?_
    refine jg_aload_n dX0_sizeOf_50 rfl rfl ?_
    refine jg_getr fk_X0_15 (pl_0 hb) rfl dX0_sizeOf_51 ?_
    refine jg_iload_n dX0_sizeOf_54 rfl rfl ?_
    refine jg_ld i (pl_2 hb) (by omega) (rfl) dX0_sizeOf_55 ?_
    refine jg_top (y := nI (p 2 i)) ((hP.2 i hi).2.1) ?_
    exact jg_iret (rfl) dX0_sizeOf_56 ⟨_, rfl, ⟨by simp [szF, e], rfl⟩⟩
set_option maxHeartbeats 4000000 in
set_option maxRecDepth 20000 in
theorem c0_heightOf (E : gT) {b : Nat} (hb : isPl b) (u : Mm) (p : Pic) (hp : PicOk p) (hP : PlB b u p) (i : Nat) (hi : i < pn p) : Con E yX0_heightOf cX0_heightOf 3 (some .int) 1 [.ref (E.2.1 b), .int (nI i)] u (kI (fun r u2 => r = nI (hgF p i) ∧ u = u2)) := by
  have hn := hp.1
  have hk := hp.2.1 i hi
  have hs : szF p i ≤ 18 := by unfold szF; split <;> (try split) <;> omega
  refine Con.of (lv := [some (.ref (E.2.1 b)), some (.int (nI i)), none]) (by decide +kernel) (Nat.le_of_ble_eq_true rfl) rfl ?_
  refine jg_aload_n dX0_heightOf_0 rfl rfl ?_
  refine jg_getr fk_X0_18 (pl_0 hb) rfl dX0_heightOf_1 ?_
  refine jg_iload_n dX0_heightOf_4 rfl rfl ?_
  refine jg_ld i (pl_3 hb) (by omega) (rfl) dX0_heightOf_5 ?_
  refine jg_top (y := nI (p 3 i)) ((hP.2 i hi).2.2.1) ?_
  refine jg_istore_n dX0_heightOf_6 rfl (by decide) rfl ?_
  refine jg_iload_n dX0_heightOf_7 rfl rfl ?_
  refine jg_iconst (v := 1) dX0_heightOf_8 (by decide) ?_
  refine jn_icmp_ge (p 3 i) 1 rfl rfl (by omega) (by omega) 16 dX0_heightOf_9 (by decide) (fun h_9 => ?_) (fun h_9 => ?_)
  · refine jg_aload_n dX0_heightOf_16 rfl rfl ?_
    refine jg_iload_n dX0_heightOf_17 rfl rfl ?_
    refine jg_callV (c0_sizeOf E hb u p hp hP i hi) me_X0_sizeOf ml_X0_81 (pl_0 hb) rfl rfl (by decide) (by decide) rfl (Nat.le_of_ble_eq_true rfl) dX0_heightOf_18 (kk_I (fun r_18 u_18 h_18 => ?_))
    obtain ⟨rfl, rfl⟩ := h_18
    refine jg_iload_n dX0_heightOf_21 rfl rfl ?_
    refine jg_iaddE (z := nI ((szF p i) + (p 3 i))) dX0_heightOf_22 (nI_add (szF p i) (p 3 i)) ?_
    refine jg_iconst (v := 1) dX0_heightOf_23 (by decide) ?_
    refine jg_isubE (z := nI (szF p i + p 3 i - 1)) dX0_heightOf_24 (pk_sub (a := szF p i + p 3 i) (b := 1) (by omega)) ?_
    refine jg_iload_n dX0_heightOf_25 rfl rfl ?_
    refine jg_idivE (z := nI (hgF p i)) dX0_heightOf_26 (nI_ne0 (by omega) (by omega)) (pk_div (by omega) (by omega) (by omega)) ?_
    exact jg_iret (rfl) dX0_heightOf_27 ⟨_, rfl, ⟨by first | rfl | (unfold hgF; rw [show p 3 i = 0 by omega, Nat.div_zero]; rfl), rfl⟩⟩
  · refine jg_iconst (v := 0) dX0_heightOf_12 (by decide) ?_
    refine jg_goto 27 dX0_heightOf_13 (by decide) ?_
    exact jg_iret (rfl) dX0_heightOf_27 ⟨_, rfl, ⟨by first | rfl | (unfold hgF; rw [show p 3 i = 0 by omega, Nat.div_zero]; rfl), rfl⟩⟩
set_option maxHeartbeats 4000000 in
set_option maxRecDepth 20000 in
theorem c0_begin (E : gT) {b : Nat} (hb : isPl b) (u : Mm) (p : Pic) (hp : PicOk p) (hP : PlB b u p) (j : Nat) (hj : j < pn p) (h1 : ∀ a, a < pn p → u (b + 10) a = nI (p1F p a)) (h2 : ∀ q, q < j → u (b + 11) (p 6 q) = nI (hgF p (p 6 q)) ∧ u (b + 12) (p 6 q) = nI (xF p (p 6 q)) ∧ u (b + 13) (p 6 q) = nI (yF p (p 6 q))) : Con E yX0_begin cX0_begin 7 none 1 [.ref (E.2.1 b), .int (nI (p 6 j)), .int (nI j)] u (kV (fun u2 => u2 = s2 (s2 u (b + 12) (p 6 j) (nI (xF p (p 6 j)))) (b + 13) (p 6 j) (nI (yF p (p 6 j))))) := by
  have hn := hp.1
  have hj6 := hp.2.2.1.1 j hj
  have b2 : p1F p (p 6 j) < pn p := inv_lt hp.2.2.2 hj6
  refine Con.of (lv := [some (.ref (E.2.1 b)), some (.int (nI (p 6 j))), some (.int (nI j)), none, none, none, none]) (by decide +kernel) (Nat.le_of_ble_eq_true rfl) rfl ?_
  refine jg_iconst (v := 0) dX0_begin_0 (by decide) ?_
  refine jg_istore_n dX0_begin_1 rfl (by decide) rfl ?_
  refine jg_iconst (v := 0) dX0_begin_2 (by decide) ?_
  refine jg_istore dX0_begin_3 (by decide) rfl ?_
  refine jg_iconst (v := 0) dX0_begin_5 (by decide) ?_
  refine jg_istore dX0_begin_6 (by decide) rfl ?_
  have cut_8 : ∀ (m q : Nat), q ≤ j → j < q + m → G E cX0_begin 7 (yX0_begin).cls none 1 (kV (fun u2 => u2 = s2 (s2 u (b + 12) (p 6 j) (nI (xF p (p 6 j)))) (b + 13) (p 6 j) (nI (yF p (p 6 j))))) 8 [some (.ref (E.2.1 b)), some (.int (nI (p 6 j))), some (.int (nI j)), some (.int (nI (mF (cX p) (p 3) (p 6) (xF p) (p 6 j) q))), some (.int (nI (mF (cY p) (hgF p) (p 6) (yF p) (p 6 j) q))), some (.int (nI q)), none] [] u := by
    intro m
    induction m with
    | zero => intro q h1 h2; omega
    | succ m ih =>
      intro q hq hm
      refine jg_iload dX0_begin_8 rfl ?_
      refine jg_iload_n dX0_begin_10 rfl rfl ?_
      refine jn_icmp_ge q j rfl rfl (by omega) (by omega) 96 dX0_begin_11 (by decide) (fun h_11 => ?_) (fun h_11 => ?_)
      · obtain rfl : j = q := by omega
        refine jg_aload_n dX0_begin_96 rfl rfl ?_
        refine jg_getr fk_X0_35 (pl_0 hb) rfl dX0_begin_97 ?_
        refine jg_iload_n dX0_begin_100 rfl rfl ?_
        refine jg_iload_n dX0_begin_101 rfl rfl ?_
        refine jg_st (p 6 j) (pl_12 hb) (by omega) (rfl) dX0_begin_102 ?_
        refine jg_aload_n dX0_begin_103 rfl rfl ?_
        refine jg_getr fk_X0_38 (pl_0 hb) rfl dX0_begin_104 ?_
        refine jg_iload_n dX0_begin_107 rfl rfl ?_
        refine jg_iload dX0_begin_108 rfl ?_
        refine jg_st (p 6 j) (pl_13 hb) (by omega) (rfl) dX0_begin_110 ?_
        exact jg_vret dX0_begin_111 ⟨rfl, by rw [xF_eq hp hj, yF_eq hp hj]⟩
      · have hq6 := hp.2.2.1.1 q (by omega)
        have b1 : p1F p (p 6 q) < pn p := inv_lt hp.2.2.2 hq6
        have bx := xF_le hp hq6
        have bY := yF_le hp hq6
        have bw := (hp.2.1 _ hq6).2.2
        have bh := hgF_le hp hq6
        have bm : mF (cX p) (p 3) (p 6) (xF p) (p 6 j) q ≤ 63 := mF_le q (fun a ha => by have := hp.2.2.1.1 a (by omega); have := xF_le hp this; have := (hp.2.1 _ (hp.2.2.1.1 a (by omega))).2.2; omega)
        have bn : mF (cY p) (hgF p) (p 6) (yF p) (p 6 j) q ≤ 126 := mF_le q (fun a ha => by have := hp.2.2.1.1 a (by omega); have := yF_le hp this; have := hgF_le hp (hp.2.2.1.1 a (by omega)); omega)
        have hne : p1F p (p 6 q) ≠ p1F p (p 6 j) := fun z => by have z1 := inv_inj hp.2.2.2 hq6 hj6 z; have z2 := hp.2.2.1.2.1 q j (by omega) hj z1; omega
        refine jg_aload_n dX0_begin_14 rfl rfl ?_
        refine jg_getr fk_X0_26 (pl_0 hb) rfl dX0_begin_15 ?_
        refine jg_iconst (v := 0) dX0_begin_18 (by decide) ?_
        refine jg_aald 0 (pl_5 hb) rfl (Nat.le_of_ble_eq_true rfl) rfl dX0_begin_19 ?_
        refine jg_iload dX0_begin_20 rfl ?_
        refine jg_ld q (pl_6 hb) (by omega) (rfl) dX0_begin_22 ?_
        refine jg_top (y := nI (p 6 q)) ((hP.2 q (by omega)).2.2.2.1) ?_
        refine jg_istore dX0_begin_23 (by decide) rfl ?_
        refine jg_aload_n dX0_begin_25 rfl rfl ?_
        refine jg_getr fk_X0_29 (pl_0 hb) rfl dX0_begin_26 ?_
        refine jg_iconst (v := 1) dX0_begin_29 (by decide) ?_
        refine jg_aald 1 (pl_8 hb) rfl (Nat.le_of_ble_eq_true rfl) rfl dX0_begin_30 ?_
        refine jg_iload dX0_begin_31 rfl ?_
        refine jg_ld (p 6 q) (pl_10 hb) (by omega) (rfl) dX0_begin_33 ?_
        refine jg_top (y := nI (p1F p (p 6 q))) (h1 _ hq6) ?_
        refine jg_aload_n dX0_begin_34 rfl rfl ?_
        refine jg_getr fk_X0_29 (pl_0 hb) rfl dX0_begin_35 ?_
        refine jg_iconst (v := 1) dX0_begin_38 (by decide) ?_
        refine jg_aald 1 (pl_8 hb) rfl (Nat.le_of_ble_eq_true rfl) rfl dX0_begin_39 ?_
        refine jg_iload_n dX0_begin_40 rfl rfl ?_
        refine jg_ld (p 6 j) (pl_10 hb) (by omega) (rfl) dX0_begin_41 ?_
        refine jg_top (y := nI (p1F p (p 6 j))) (h1 _ hj6) ?_
        refine jn_icmp_ge (p1F p (p 6 q)) (p1F p (p 6 j)) rfl rfl (by omega) (by omega) 68 dX0_begin_42 (by decide) (fun h_42 => ?_) (fun h_42 => ?_)
        · have eX : mF (cX p) (p 3) (p 6) (xF p) (p 6 j) (q + 1) = mF (cX p) (p 3) (p 6) (xF p) (p 6 j) q := by show (if _ then _ else _) = _; rw [if_neg (by simp only [cX, decide_eq_true_eq]; omega)]
          have eY : mF (cY p) (hgF p) (p 6) (yF p) (p 6 j) (q + 1) = max (mF (cY p) (hgF p) (p 6) (yF p) (p 6 j) q) (yF p (p 6 q) + hgF p (p 6 q)) := by show (if _ then _ else _) = _; rw [if_pos (by simp only [cY, decide_eq_true_eq]; omega)]
          refine jg_iload dX0_begin_68 rfl ?_
          refine jg_aload_n dX0_begin_70 rfl rfl ?_
          refine jg_getr fk_X0_38 (pl_0 hb) rfl dX0_begin_71 ?_
          refine jg_iload dX0_begin_74 rfl ?_
          refine jg_ld (p 6 q) (pl_13 hb) (by omega) (rfl) dX0_begin_76 ?_
          refine jg_top (y := nI (yF p (p 6 q))) ((h2 q (by omega)).2.2) ?_
          refine jg_aload_n dX0_begin_77 rfl rfl ?_
          refine jg_getr fk_X0_32 (pl_0 hb) rfl dX0_begin_78 ?_
          refine jg_iload dX0_begin_81 rfl ?_
          refine jg_ld (p 6 q) (pl_11 hb) (by omega) (rfl) dX0_begin_83 ?_
          refine jg_top (y := nI (hgF p (p 6 q))) ((h2 q (by omega)).1) ?_
          refine jg_iaddE (z := nI ((yF p (p 6 q)) + (hgF p (p 6 q)))) dX0_begin_84 (nI_add (yF p (p 6 q)) (hgF p (p 6 q))) ?_
          refine jg_max (z := nI (max (mF (cY p) (hgF p) (p 6) (yF p) (p 6 j) q) (yF p (p 6 q) + hgF p (p 6 q)))) mx_X0_75 (by decide) (Nat.le_of_ble_eq_true rfl) (mxN (by omega) (by omega)) dX0_begin_85 ?_
          refine jg_istore dX0_begin_88 (by decide) rfl ?_
          refine jg_iinc (v := nI (q + 1)) dX0_begin_90 rfl (nI_1 q) (by decide) rfl ?_
          refine jg_goto 8 dX0_begin_93 (by decide) ?_
          have ih2 := ih (q + 1) (by omega) (by omega)
          rw [eX, eY] at ih2
          exact jg_weak (gLe_s (gLe_s (gLe_s (gLe_s (gLe_s (gLe_s (gLe_n gLe_nil))))))) ih2
        · have eX : mF (cX p) (p 3) (p 6) (xF p) (p 6 j) (q + 1) = max (mF (cX p) (p 3) (p 6) (xF p) (p 6 j) q) (xF p (p 6 q) + p 3 (p 6 q)) := by show (if _ then _ else _) = _; rw [if_pos (by simp only [cX, decide_eq_true_eq]; omega)]
          have eY : mF (cY p) (hgF p) (p 6) (yF p) (p 6 j) (q + 1) = mF (cY p) (hgF p) (p 6) (yF p) (p 6 j) q := by show (if _ then _ else _) = _; rw [if_neg (by simp only [cY, decide_eq_true_eq]; omega)]
          refine jg_iload_n dX0_begin_45 rfl rfl ?_
          refine jg_aload_n dX0_begin_46 rfl rfl ?_
          refine jg_getr fk_X0_35 (pl_0 hb) rfl dX0_begin_47 ?_
          refine jg_iload dX0_begin_50 rfl ?_
          refine jg_ld (p 6 q) (pl_12 hb) (by omega) (rfl) dX0_begin_52 ?_
          refine jg_top (y := nI (xF p (p 6 q))) ((h2 q (by omega)).2.1) ?_
          refine jg_aload_n dX0_begin_53 rfl rfl ?_
          refine jg_getr fk_X0_18 (pl_0 hb) rfl dX0_begin_54 ?_
          refine jg_iload dX0_begin_57 rfl ?_
          refine jg_ld (p 6 q) (pl_3 hb) (by omega) (rfl) dX0_begin_59 ?_
          refine jg_top (y := nI (p 3 (p 6 q))) ((hP.2 _ hq6).2.2.1) ?_
          refine jg_iaddE (z := nI ((xF p (p 6 q)) + (p 3 (p 6 q)))) dX0_begin_60 (nI_add (xF p (p 6 q)) (p 3 (p 6 q))) ?_
          refine jg_max (z := nI (max (mF (cX p) (p 3) (p 6) (xF p) (p 6 j) q) (xF p (p 6 q) + p 3 (p 6 q)))) mx_X0_75 (by decide) (Nat.le_of_ble_eq_true rfl) (mxN (by omega) (by omega)) dX0_begin_61 ?_
          refine jg_istore_n dX0_begin_64 rfl (by decide) rfl ?_
          refine jg_goto 90 dX0_begin_65 (by decide) ?_
          refine jg_iinc (v := nI (q + 1)) dX0_begin_90 rfl (nI_1 q) (by decide) rfl ?_
          refine jg_goto 8 dX0_begin_93 (by decide) ?_
          have ih2 := ih (q + 1) (by omega) (by omega)
          rw [eX, eY] at ih2
          exact jg_weak (gLe_s (gLe_s (gLe_s (gLe_s (gLe_s (gLe_s (gLe_n gLe_nil))))))) ih2
  exact jg_weak (gLe_s (gLe_s (gLe_s (gLe_s (gLe_s (gLe_s (gLe_n gLe_nil))))))) (cut_8 (j + 1) 0 (Nat.zero_le _) (by omega))
end
section
/-! sets as numbers -/
def setF (c : Nat → Bool) : Nat → Nat
  | 0 => 0
  | k + 1 => setF c k + (if c k then 2 ^ k else 0)
theorem setF_lt (c : Nat → Bool) (k : Nat) : setF c k < 2 ^ k := by
  induction k with
  | zero => exact Nat.one_pos
  | succ k ih =>
    show setF c k + (if c k then 2 ^ k else 0) < 2 ^ (k + 1)
    rw [Nat.pow_succ]
    split <;> omega
theorem setF_congr {c c' : Nat → Bool} {k : Nat} (h : ∀ i, i < k → c i = c' i) : setF c k = setF c' k := by
  induction k with
  | zero => rfl
  | succ k ih =>
    show setF c k + (if c k then 2 ^ k else 0) = setF c' k + (if c' k then 2 ^ k else 0)
    rw [ih (fun i hi => h i (by omega)), h k (by omega)]
theorem setF_64 (c : Nat → Bool) {k : Nat} (h : k ≤ 6) : setF c k < 64 := by
  have h1 := setF_lt c k
  have h2 : 2 ^ k ≤ 2 ^ 6 := Nat.pow_le_pow_right (by decide) h
  omega
theorem orSh : ∀ b, b < 10 → ∀ s, s < 2 ^ b → nI s ||| ((1 : Int32) <<< (nI b &&& 31)) = nI (s + 2 ^ b) := by decide +kernel
theorem or0 (s : Nat) : nI s ||| (0 : Int32) = nI s := Int32.or_zero
theorem orC (c : Nat → Bool) {b : Nat} (hb : b < 10) (h : c b = true) : nI (setF c b) ||| ((1 : Int32) <<< (nI b &&& 31)) = nI (setF c (b + 1)) := by
  rw [orSh b hb _ (setF_lt c b)]
  show _ = nI (setF c b + (if c b then 2 ^ b else 0))
  rw [if_pos h]
theorem setF_no {c : Nat → Bool} {b : Nat} (h : c b = false) : setF c (b + 1) = setF c b := by
  show setF c b + (if c b then 2 ^ b else 0) = _
  rw [h]
  rfl
theorem setF_yes {c : Nat → Bool} {b : Nat} (h : c b = true) : setF c (b + 1) = setF c b + 2 ^ b := by
  show setF c b + (if c b then 2 ^ b else 0) = _
  rw [h]
  rfl
theorem bitAt : ∀ s, s < 64 → ∀ a, a < 6 → (nI s >>> (nI a &&& 31)) &&& 1 = nI (s / 2 ^ a % 2) := by decide +kernel
theorem bitAll : ∀ a, a < 6 → ((-1 : Int32) >>> (nI a &&& 31)) &&& 1 = 1 := by decide +kernel
theorem setF_bit (c : Nat → Bool) : ∀ k a, a < k → setF c k / 2 ^ a % 2 = if c a then 1 else 0 := by
  intro k
  induction k with
  | zero => intro a h; omega
  | succ k ih =>
    intro a ha
    have hlt := setF_lt c k
    show (setF c k + (if c k then 2 ^ k else 0)) / 2 ^ a % 2 = _
    by_cases e : a = k
    · subst e
      by_cases h : c a = true
      · rw [if_pos h, if_pos h, Nat.add_div_right _ (Nat.two_pow_pos a), Nat.div_eq_of_lt hlt]
      · rw [if_neg h, if_neg h, Nat.add_zero, Nat.div_eq_of_lt hlt]
    · by_cases h : c k = true
      · rw [if_pos h]
        have e2 : 2 ^ k = 2 ^ a * (2 * 2 ^ (k - a - 1)) := by
          rw [← Nat.pow_succ', ← Nat.pow_add]
          congr 1
          omega
        rw [e2, Nat.add_mul_div_left _ _ (Nat.two_pow_pos a), Nat.add_mul_mod_self_left]
        exact ih a (by omega)
      · rw [if_neg h, Nat.add_zero]
        exact ih a (by omega)
theorem setF_at (c : Nat → Bool) {n a : Nat} (hn : n ≤ 6) (ha : a < n) : (nI (setF c n) >>> (nI a &&& 31)) &&& 1 = bI (c a) := by
  rw [bitAt _ (setF_64 c hn) a (by omega), setF_bit c n a ha]
  cases c a <;> rfl
/-- how many are in a set of at most six -/
def pcN (s : Nat) : Nat := s % 2 + s / 2 % 2 + s / 4 % 2 + s / 8 % 2 + s / 16 % 2 + s / 32 % 2
theorem pcN_le (s : Nat) : pcN s ≤ 6 := by unfold pcN; omega
/-! two that meet -/
def meetN (a la b lb : Nat) : Bool := decide (a + la = b) || decide (b + lb = a)
def shareN (a la b lb : Nat) : Bool := decide (a < b + lb) && decide (b < a + la)
def tchF (p : Pic) (a b : Nat) : Bool := meetN (xF p a) (p 3 a) (xF p b) (p 3 b) && shareN (yF p a) (hgF p a) (yF p b) (hgF p b) || meetN (yF p a) (hgF p a) (yF p b) (hgF p b) && shareN (xF p a) (p 3 a) (xF p b) (p 3 b)
def twosF (p : Pic) : Nat → Nat
  | 0 => 0
  | k + 1 => twosF p k + pcN (setF (tchF p k) (pn p))
theorem twosF_le (p : Pic) (k : Nat) : twosF p k ≤ 6 * k := by
  induction k with
  | zero => exact Nat.le_refl _
  | succ k ih =>
    show twosF p k + pcN (setF (tchF p k) (pn p)) ≤ _
    have := pcN_le (setF (tchF p k) (pn p))
    omega
def usedF (p : Pic) : Nat → Nat
  | 0 => 0
  | k + 1 => usedF p k + p 3 k * hgF p k
/-- one place of a picture written -/
def upP (p : Pic) (j a v : Nat) : Pic := fun i => if i = j then (fun k => if k = a then v else p j k) else p i
theorem upP_row {p : Pic} {j a v i : Nat} (h : i ≠ j) : upP p j a v i = p i := if_neg h
theorem upP_self (p : Pic) (j a v : Nat) : upP p j a v j a = v := by unfold upP; rw [if_pos rfl]; exact if_pos rfl
theorem upP_ne {p : Pic} {j a v k : Nat} (h : k ≠ a) : upP p j a v j k = p j k := by unfold upP; rw [if_pos rfl]; exact if_neg h
def dcP (p : Pic) (a : Nat) : Pic := upP p 3 a (p 3 a - 1)
def crF (p : Pic) (a : Nat) : Bool := decide (brP (dcP p a) < brP p)
/-- the widest of a set, above 1, of several the least number -/
def wsb (w : Nat → Nat) (k : Nat) (r : Option Nat) : Bool := match r with
  | none => true
  | some a => decide (w a < w k)
def wsO (c : Nat → Bool) (w : Nat → Nat) : Nat → Option Nat
  | 0 => none
  | k + 1 => if (c k && decide (1 < w k) && wsb w k (wsO c w k)) = true then some k else wsO c w k
theorem wsO_yes {c : Nat → Bool} {w : Nat → Nat} {k : Nat} (h1 : c k = true) (h2 : 1 < w k) (h3 : wsb w k (wsO c w k) = true) : wsO c w (k + 1) = some k := if_pos (by simp [h1, h2, h3])
theorem wsO_no {c : Nat → Bool} {w : Nat → Nat} {k : Nat} (h : ¬ (c k = true ∧ 1 < w k ∧ wsb w k (wsO c w k) = true)) : wsO c w (k + 1) = wsO c w k := if_neg (by simp only [Bool.and_eq_true, decide_eq_true_eq]; exact fun q => h ⟨q.1.1, q.1.2, q.2⟩)
/-- as a number: none is e -/
def oI (e : Int32) (r : Option Nat) : Int32 := match r with
  | none => e
  | some a => nI a
theorem wsO_lt {c : Nat → Bool} {w : Nat → Nat} {k a : Nat} (h : wsO c w k = some a) : a < k ∧ 1 < w a ∧ c a = true := by
  induction k with
  | zero => cases h
  | succ k ih =>
    by_cases hc : c k = true ∧ 1 < w k ∧ wsb w k (wsO c w k) = true
    · rw [wsO_yes hc.1 hc.2.1 hc.2.2] at h
      cases h
      exact ⟨by omega, hc.2.1, hc.1⟩
    · rw [wsO_no hc] at h
      obtain ⟨h1, h2⟩ := ih h
      exact ⟨by omega, h2⟩
def nxO (p : Pic) : Option Nat := match wsO (crF p) (p 3) (pn p) with
  | some a => some a
  | none => wsO (fun _ => true) (p 3) (pn p)
theorem PicOk.wd {p : Pic} (h : PicOk p) {a v : Nat} (hv : v ≤ 9) : PicOk (upP p 3 a v) := by
  refine ⟨h.1, fun i hi => ⟨(h.2.1 i hi).1, (h.2.1 i hi).2.1, ?_⟩, h.2.2⟩
  by_cases e : i = a
  · subst e; rw [upP_self]; exact hv
  · rw [upP_ne e]; exact (h.2.1 i hi).2.2
theorem PicOk.pl {p : Pic} (h : PicOk p) {a v : Nat} (hv : v ≤ 9) : PicOk (upP p 2 a v) := by
  refine ⟨h.1, fun i hi => ⟨(h.2.1 i hi).1, ?_, (h.2.1 i hi).2.2⟩, h.2.2⟩
  by_cases e : i = a
  · subst e; rw [upP_self]; exact hv
  · rw [upP_ne e]; exact (h.2.1 i hi).2.1
theorem PicOk.kd {p : Pic} (h : PicOk p) {a v : Nat} (hv : v < 3) : PicOk (upP p 1 a v) := by
  refine ⟨h.1, fun i hi => ⟨?_, (h.2.1 i hi).2⟩, h.2.2⟩
  by_cases e : i = a
  · subst e; rw [upP_self]; exact hv
  · rw [upP_ne e]; exact (h.2.1 i hi).1
end
section
set_option maxHeartbeats 4000000 in
set_option maxRecDepth 20000 in
theorem c0_lay (E : gT) {b : Nat} (hb : isPl b) (u : Mm) (p : Pic) (hp : PicOk p) (hP : PlB b u p) : Con E yX0_lay cX0_lay 3 none 2 [.ref (E.2.1 b)] u (kV (fun u2 => LF b u u2 ∧ PlL b u2 p)) := by
  have hn := hp.1
  refine Con.of (lv := [some (.ref (E.2.1 b)), none, none]) (by decide +kernel) (Nat.le_of_ble_eq_true rfl) rfl ?_
  refine jg_aload_n dX0_lay_0 rfl rfl ?_
  refine jg_callV (c0_findPlaces E hb u p hp hP) me_X0_findPlaces ml_X0_58 (pl_0 hb) rfl rfl (by decide) (by decide) rfl (Nat.le_of_ble_eq_true rfl) dX0_lay_1 (kk_V (fun u_1 h_1 => ?_))
  obtain ⟨hf0, hf1⟩ := h_1
  refine jg_aload_n dX0_lay_4 rfl rfl ?_
  refine jg_iconst (v := 0) dX0_lay_5 (by decide) ?_
  refine jg_puti fp_X0_61 (pl_0 hb) rfl dX0_lay_6 ?_
  refine jg_aload_n dX0_lay_9 rfl rfl ?_
  refine jg_iconst (v := 0) dX0_lay_10 (by decide) ?_
  refine jg_puti fp_X0_64 (pl_0 hb) rfl dX0_lay_11 ?_
  refine jg_iconst (v := 0) dX0_lay_14 (by decide) ?_
  refine jg_istore_n dX0_lay_15 rfl (by decide) rfl ?_
  have cut_16 : ∀ (m i : Nat) (v : Mm), i ≤ pn p → pn p < i + m → LF b u v → (∀ a, a < pn p → v (b + 9) a = nI (p0F p a) ∧ v (b + 10) a = nI (p1F p a)) → (∀ q, q < i → v (b + 11) (p 6 q) = nI (hgF p (p 6 q)) ∧ v (b + 12) (p 6 q) = nI (xF p (p 6 q)) ∧ v (b + 13) (p 6 q) = nI (yF p (p 6 q))) → v b 10 = nI (brF (p 3) (p 6) (xF p) i) → v b 11 = nI (brF (hgF p) (p 6) (yF p) i) → G E cX0_lay 3 (yX0_lay).cls none 2 (kV (fun u2 => LF b u u2 ∧ PlL b u2 p)) 16 [some (.ref (E.2.1 b)), some (.int (nI i)), none] [] v := by
    intro m
    induction m with
    | zero => intro i v h1 h2; omega
    | succ m ih =>
      intro i v hi hm hF hpl hq0 hbr hdp
      refine jg_iload_n dX0_lay_16 rfl rfl ?_
      refine jg_aload_n dX0_lay_17 rfl rfl ?_
      refine jg_geti fk_X0_41 (pl_0 hb) rfl dX0_lay_18 ?_
      refine jg_top (y := nI (pn p)) ((hF.2 0 (by omega) (by omega)).trans hP.1) ?_
      refine jn_icmp_ge i (pn p) rfl rfl (by omega) (by omega) 104 dX0_lay_21 (by decide) (fun h_21 => ?_) (fun h_21 => ?_)
      · obtain rfl : i = pn p := by omega
        exact jg_vret dX0_lay_104 ⟨rfl, ⟨hF, hP.fr hF, fun a ha => by obtain ⟨k, hk, rfl⟩ := hp.2.2.1.2.2 a ha; exact ⟨(hpl _ ha).1, (hpl _ ha).2, (hq0 k hk).1, (hq0 k hk).2.1, (hq0 k hk).2.2⟩, hbr, hdp⟩⟩
      · have hB := hP.fr hF
        have h6 := hp.2.2.1.1 i h_21
        have bx := xF_le hp h6
        have bY := yF_le hp h6
        have bw := (hp.2.1 _ h6).2.2
        have bh := hgF_le hp h6
        have bm : brF (p 3) (p 6) (xF p) i ≤ 63 := brF_le i (fun a ha => by have := hp.2.2.1.1 a (by omega); have := xF_le hp this; have := (hp.2.1 _ (hp.2.2.1.1 a (by omega))).2.2; omega)
        have bn : brF (hgF p) (p 6) (yF p) i ≤ 126 := brF_le i (fun a ha => by have := hp.2.2.1.1 a (by omega); have := yF_le hp this; have := hgF_le hp (hp.2.2.1.1 a (by omega)); omega)
        refine jg_aload_n dX0_lay_24 rfl rfl ?_
        refine jg_getr fk_X0_26 (pl_0 hb) rfl dX0_lay_25 ?_
        refine jg_iconst (v := 0) dX0_lay_28 (by decide) ?_
        refine jg_aald 0 (pl_5 hb) rfl (Nat.le_of_ble_eq_true rfl) rfl dX0_lay_29 ?_
        refine jg_iload_n dX0_lay_30 rfl rfl ?_
        refine jg_ld i (pl_6 hb) (by omega) (rfl) dX0_lay_31 ?_
        refine jg_top (y := nI (p 6 i)) ((hB.2 i h_21).2.2.2.1) ?_
        refine jg_istore_n dX0_lay_32 rfl (by decide) rfl ?_
        refine jg_aload_n dX0_lay_33 rfl rfl ?_
        refine jg_getr fk_X0_32 (pl_0 hb) rfl dX0_lay_34 ?_
        refine jg_iload_n dX0_lay_37 rfl rfl ?_
        refine jg_aload_n dX0_lay_38 rfl rfl ?_
        refine jg_iload_n dX0_lay_39 rfl rfl ?_
        refine jg_callV (c0_heightOf E hb v p hp hB (p 6 i) h6) me_X0_heightOf ml_X0_67 (pl_0 hb) rfl rfl (by decide) (by decide) rfl (Nat.le_of_ble_eq_true rfl) dX0_lay_40 (kk_I (fun r_40 u_40 h_40 => ?_))
        obtain ⟨rfl, rfl⟩ := h_40
        refine jg_st (p 6 i) (pl_11 hb) (by omega) (rfl) dX0_lay_43 ?_
        obtain ⟨v1, hv1⟩ : ∃ z, z = s2 v (b + 11) (p 6 i) (nI (hgF p (p 6 i))) := ⟨_, rfl⟩
        rw [← hv1]
        have hF1 : LF b u v1 := by rw [hv1]; exact hF.row (by omega) (by omega)
        have hr1 : ∀ k, k ≠ b + 11 → v1 k = v k := fun k hk => by rw [hv1, s2_row hk]
        refine jg_aload_n dX0_lay_44 rfl rfl ?_
        refine jg_iload_n dX0_lay_45 rfl rfl ?_
        refine jg_iload_n dX0_lay_46 rfl rfl ?_
        refine jg_callV (c0_begin E hb v1 p hp (hP.fr hF1) i h_21 (fun a ha => by rw [hr1 _ (by omega)]; exact (hpl a ha).2) (fun q hq => ⟨by rw [hv1, s2_ne (fun z => by have := hp.2.2.1.2.1 q i (by omega) h_21 z; omega)]; exact (hq0 q hq).1, by rw [hr1 _ (by omega)]; exact (hq0 q hq).2.1, by rw [hr1 _ (by omega)]; exact (hq0 q hq).2.2⟩)) me_X0_begin ml_X0_71 (pl_0 hb) rfl rfl (by decide) (by decide) rfl (Nat.le_of_ble_eq_true rfl) dX0_lay_47 (kk_V (fun u_47 h_47 => ?_))
        obtain ⟨v2, hv2⟩ : ∃ z, z = s2 (s2 v1 (b + 12) (p 6 i) (nI (xF p (p 6 i)))) (b + 13) (p 6 i) (nI (yF p (p 6 i))) := ⟨_, rfl⟩
        rw [← hv2] at h_47
        subst h_47
        have hF2 : LF b u u_47 := by rw [hv2]; exact (hF1.row (by omega) (by omega)).row (by omega) (by omega)
        have hr2 : ∀ k, k ≠ b + 11 → k ≠ b + 12 → k ≠ b + 13 → u_47 k = v k := fun k h1 h2 h3 => by rw [hv2, s2_row h3, s2_row h2]; exact hr1 k h1
        have hq2 : ∀ q, q < i + 1 → u_47 (b + 11) (p 6 q) = nI (hgF p (p 6 q)) ∧ u_47 (b + 12) (p 6 q) = nI (xF p (p 6 q)) ∧ u_47 (b + 13) (p 6 q) = nI (yF p (p 6 q)) := by
          intro q hq
          by_cases e : q = i
          · subst e; rw [hv2, hv1]; exact ⟨by rw [s2_row (by omega), s2_row (by omega), s2_self], by rw [s2_row (by omega), s2_self], s2_self _ _ _ _⟩
          · have hne : p 6 q ≠ p 6 i := fun z => e (hp.2.2.1.2.1 q i (by omega) h_21 z)
            have h0 := hq0 q (by omega)
            rw [hv2, hv1]; exact ⟨by rw [s2_row (by omega), s2_row (by omega), s2_ne hne]; exact h0.1, by rw [s2_row (by omega), s2_ne hne, s2_row (by omega)]; exact h0.2.1, by rw [s2_ne hne, s2_row (by omega), s2_row (by omega)]; exact h0.2.2⟩
        have hB2 := hP.fr hF2
        refine jg_aload_n dX0_lay_50 rfl rfl ?_
        refine jg_aload_n dX0_lay_51 rfl rfl ?_
        refine jg_geti fk_X0_61 (pl_0 hb) rfl dX0_lay_52 ?_
        refine jg_top (y := nI (brF (p 3) (p 6) (xF p) i)) (by rw [hr2 b (by omega) (by omega) (by omega)]; exact hbr) ?_
        refine jg_aload_n dX0_lay_55 rfl rfl ?_
        refine jg_getr fk_X0_35 (pl_0 hb) rfl dX0_lay_56 ?_
        refine jg_iload_n dX0_lay_59 rfl rfl ?_
        refine jg_ld (p 6 i) (pl_12 hb) (by omega) (rfl) dX0_lay_60 ?_
        refine jg_top (y := nI (xF p (p 6 i))) ((hq2 i (by omega)).2.1) ?_
        refine jg_aload_n dX0_lay_61 rfl rfl ?_
        refine jg_getr fk_X0_18 (pl_0 hb) rfl dX0_lay_62 ?_
        refine jg_iload_n dX0_lay_65 rfl rfl ?_
        refine jg_ld (p 6 i) (pl_3 hb) (by omega) (rfl) dX0_lay_66 ?_
        refine jg_top (y := nI (p 3 (p 6 i))) ((hB2.2 _ h6).2.2.1) ?_
        refine jg_iaddE (z := nI ((xF p (p 6 i)) + (p 3 (p 6 i)))) dX0_lay_67 (nI_add (xF p (p 6 i)) (p 3 (p 6 i))) ?_
        refine jg_max (z := nI (brF (p 3) (p 6) (xF p) (i + 1))) mx_X0_75 (by decide) (Nat.le_of_ble_eq_true rfl) (mxN (by omega) (by omega)) dX0_lay_68 ?_
        refine jg_puti fp_X0_61 (pl_0 hb) rfl dX0_lay_71 ?_
        refine jg_aload_n dX0_lay_74 rfl rfl ?_
        refine jg_aload_n dX0_lay_75 rfl rfl ?_
        refine jg_geti fk_X0_64 (pl_0 hb) rfl dX0_lay_76 ?_
        refine jg_top (y := nI (brF (hgF p) (p 6) (yF p) i)) (by rw [s2_ne (by omega), hr2 b (by omega) (by omega) (by omega)]; exact hdp) ?_
        refine jg_aload_n dX0_lay_79 rfl rfl ?_
        refine jg_getr fk_X0_38 (pl_0 hb) rfl dX0_lay_80 ?_
        refine jg_iload_n dX0_lay_83 rfl rfl ?_
        refine jg_ld (p 6 i) (pl_13 hb) (by omega) (rfl) dX0_lay_84 ?_
        refine jg_top (y := nI (yF p (p 6 i))) (by rw [s2_row (by omega)]; exact (hq2 i (by omega)).2.2) ?_
        refine jg_aload_n dX0_lay_85 rfl rfl ?_
        refine jg_getr fk_X0_32 (pl_0 hb) rfl dX0_lay_86 ?_
        refine jg_iload_n dX0_lay_89 rfl rfl ?_
        refine jg_ld (p 6 i) (pl_11 hb) (by omega) (rfl) dX0_lay_90 ?_
        refine jg_top (y := nI (hgF p (p 6 i))) (by rw [s2_row (by omega)]; exact (hq2 i (by omega)).1) ?_
        refine jg_iaddE (z := nI ((yF p (p 6 i)) + (hgF p (p 6 i)))) dX0_lay_91 (nI_add (yF p (p 6 i)) (hgF p (p 6 i))) ?_
        refine jg_max (z := nI (brF (hgF p) (p 6) (yF p) (i + 1))) mx_X0_75 (by decide) (Nat.le_of_ble_eq_true rfl) (mxN (by omega) (by omega)) dX0_lay_92 ?_
        refine jg_puti fp_X0_64 (pl_0 hb) rfl dX0_lay_95 ?_
        refine jg_iinc (v := nI (i + 1)) dX0_lay_98 rfl (nI_1 i) (by decide) rfl ?_
        refine jg_goto 16 dX0_lay_101 (by decide) ?_
        exact jg_weak (gLe_s (gLe_s (gLe_n gLe_nil))) (ih (i + 1) _ (by omega) (by omega) ((hF2.fld (Or.inl rfl)).fld (Or.inr rfl)) (fun a ha => by rw [s2_row (by omega), s2_row (by omega), s2_row (by omega), s2_row (by omega), hr2 _ (by omega) (by omega) (by omega), hr2 _ (by omega) (by omega) (by omega)]; exact hpl a ha) (fun q hq => by rw [s2_row (by omega), s2_row (by omega), s2_row (by omega), s2_row (by omega), s2_row (by omega), s2_row (by omega)]; exact hq2 q hq) (by rw [s2_ne (by omega), s2_self]) (s2_self _ _ _ _))
  exact jg_weak (gLe_s (gLe_s (gLe_n gLe_nil))) (cut_16 (pn p + 1) 0 _ (Nat.zero_le _) (by omega) ⟨fun k h1 h2 => by rw [s2_row (by omega), s2_row (by omega)]; exact hf0 k (by omega) (by omega), fun j h1 h2 => by rw [s2_ne (by omega), s2_ne (by omega), hf0 b (by omega) (by omega)]⟩ (fun a ha => by rw [s2_row (by omega), s2_row (by omega), s2_row (by omega), s2_row (by omega)]; obtain ⟨k, hk, e⟩ := hp.2.2.1.2.2 a ha; obtain ⟨k2, hk2, e2⟩ := hp.2.2.2.2.2 a ha; exact ⟨by rw [← e, (hf1 k hk).1]; unfold p0F; rw [inv_at hp.2.2.1.2.1 hk], by rw [← e2, (hf1 k2 hk2).2]; unfold p1F; rw [inv_at hp.2.2.2.2.1 hk2]⟩) (fun q h => by omega) (by rw [s2_ne (by omega), s2_self]; rfl) (by rw [s2_self]; rfl))
set_option maxHeartbeats 4000000 in
set_option maxRecDepth 20000 in
theorem c0_meetN (E : gT) (u : Mm) (a la b lb : Nat) (ha : a < 1000) (hla : la < 1000) (hb : b < 1000) (hlb : lb < 1000) : Con E yX0_meet cX0_meet 4 (some .boolean) 0 [.int (nI a), .int (nI la), .int (nI b), .int (nI lb)] u (kI (fun r u2 => r = bI (meetN a la b lb) ∧ u = u2)) := by
  refine Con.of (lv := [some (.int (nI a)), some (.int (nI la)), some (.int (nI b)), some (.int (nI lb))]) (by decide +kernel) (Nat.le_of_ble_eq_true rfl) rfl ?_
  refine jg_iload_n dX0_meet_0 rfl rfl ?_
  refine jg_iload_n dX0_meet_1 rfl rfl ?_
  refine jg_iaddE (z := nI (a + la)) dX0_meet_2 (nI_add a la) ?_
  refine jg_iload_n dX0_meet_3 rfl rfl ?_
  refine jn_icmp_eq (a + la) b rfl rfl (by omega) (by omega) 14 dX0_meet_4 (by decide) (fun h_4 => ?_) (fun h_4 => ?_)
  · refine jg_iconst (v := 1) dX0_meet_14 (by decide) ?_
    refine jg_goto 19 dX0_meet_15 (by decide) ?_
    exact jg_iret (rfl) dX0_meet_19 ⟨_, rfl, ⟨by simp [bI, meetN, *], rfl⟩⟩
  · refine jg_iload_n dX0_meet_7 rfl rfl ?_
    refine jg_iload_n dX0_meet_8 rfl rfl ?_
    refine jg_iaddE (z := nI (b + lb)) dX0_meet_9 (nI_add b lb) ?_
    refine jg_iload_n dX0_meet_10 rfl rfl ?_
    refine jn_icmp_ne (b + lb) a rfl rfl (by omega) (by omega) 18 dX0_meet_11 (by decide) (fun h_11 => ?_) (fun h_11 => ?_)
    · refine jg_iconst (v := 0) dX0_meet_18 (by decide) ?_
      exact jg_iret (rfl) dX0_meet_19 ⟨_, rfl, ⟨by simp [bI, meetN, *], rfl⟩⟩
    · refine jg_iconst (v := 1) dX0_meet_14 (by decide) ?_
      refine jg_goto 19 dX0_meet_15 (by decide) ?_
      exact jg_iret (rfl) dX0_meet_19 ⟨_, rfl, ⟨by simp [bI, meetN, *], rfl⟩⟩
set_option maxHeartbeats 4000000 in
set_option maxRecDepth 20000 in
theorem c0_shareN (E : gT) (u : Mm) (a la b lb : Nat) (ha : a < 1000) (hla : la < 1000) (hb : b < 1000) (hlb : lb < 1000) : Con E yX0_share cX0_share 4 (some .boolean) 0 [.int (nI a), .int (nI la), .int (nI b), .int (nI lb)] u (kI (fun r u2 => r = bI (shareN a la b lb) ∧ u = u2)) := by
  refine Con.of (lv := [some (.int (nI a)), some (.int (nI la)), some (.int (nI b)), some (.int (nI lb))]) (by decide +kernel) (Nat.le_of_ble_eq_true rfl) rfl ?_
  refine jg_iload_n dX0_share_0 rfl rfl ?_
  refine jg_iload_n dX0_share_1 rfl rfl ?_
  refine jg_iload_n dX0_share_2 rfl rfl ?_
  refine jg_iaddE (z := nI (b + lb)) dX0_share_3 (nI_add b lb) ?_
  refine jn_icmp_ge a (b + lb) rfl rfl (by omega) (by omega) 18 dX0_share_4 (by decide) (fun h_4 => ?_) (fun h_4 => ?_)
  · refine jg_iconst (v := 0) dX0_share_18 (by decide) ?_
    exact jg_iret (rfl) dX0_share_19 ⟨_, rfl, ⟨by simp [bI, shareN]; omega, rfl⟩⟩
  · refine jg_iload_n dX0_share_7 rfl rfl ?_
    refine jg_iload_n dX0_share_8 rfl rfl ?_
    refine jg_iload_n dX0_share_9 rfl rfl ?_
    refine jg_iaddE (z := nI (a + la)) dX0_share_10 (nI_add a la) ?_
    refine jn_icmp_ge b (a + la) rfl rfl (by omega) (by omega) 18 dX0_share_11 (by decide) (fun h_11 => ?_) (fun h_11 => ?_)
    · refine jg_iconst (v := 0) dX0_share_18 (by decide) ?_
      exact jg_iret (rfl) dX0_share_19 ⟨_, rfl, ⟨by simp [bI, shareN]; omega, rfl⟩⟩
    · refine jg_iconst (v := 1) dX0_share_14 (by decide) ?_
      refine jg_goto 19 dX0_share_15 (by decide) ?_
      exact jg_iret (rfl) dX0_share_19 ⟨_, rfl, ⟨by simp [bI, shareN]; omega, rfl⟩⟩
set_option maxHeartbeats 4000000 in
set_option maxRecDepth 20000 in
theorem c0_isLeft (E : gT) {b : Nat} (hb : isPl b) (u : Mm) (p : Pic) (hp : PicOk p) (hL : PlL b u p) (a c : Nat) (ha : a < pn p) (hc : c < pn p) : Con E yX0_isLeft cX0_isLeft 3 (some .boolean) 0 [.ref (E.2.1 b), .int (nI a), .int (nI c)] u (kI (fun r u2 => r = bI (decide (p0F p a < p0F p c) && decide (p1F p a < p1F p c)) ∧ u = u2)) := by
  have hn := hp.1
  have a0 : p0F p a < pn p := inv_lt hp.2.2.1 ha
  have a1 : p1F p a < pn p := inv_lt hp.2.2.2 ha
  have c0 : p0F p c < pn p := inv_lt hp.2.2.1 hc
  have c1 : p1F p c < pn p := inv_lt hp.2.2.2 hc
  refine Con.of (lv := [some (.ref (E.2.1 b)), some (.int (nI a)), some (.int (nI c))]) (by decide +kernel) (Nat.le_of_ble_eq_true rfl) rfl ?_
  refine jg_aload_n dX0_isLeft_0 rfl rfl ?_
  refine jg_getr fk_X0_29 (pl_0 hb) rfl dX0_isLeft_1 ?_
  refine jg_iconst (v := 0) dX0_isLeft_4 (by decide) ?_
  refine jg_aald 0 (pl_8 hb) rfl (Nat.le_of_ble_eq_true rfl) rfl dX0_isLeft_5 ?_
  refine jg_iload_n dX0_isLeft_6 rfl rfl ?_
  refine jg_ld a (pl_9 hb) (by omega) (rfl) dX0_isLeft_7 ?_
  refine jg_top (y := nI (p0F p a)) ((hL.2.1 a ha).1) ?_
  refine jg_aload_n dX0_isLeft_8 rfl rfl ?_
  refine jg_getr fk_X0_29 (pl_0 hb) rfl dX0_isLeft_9 ?_
  refine jg_iconst (v := 0) dX0_isLeft_12 (by decide) ?_
  refine jg_aald 0 (pl_8 hb) rfl (Nat.le_of_ble_eq_true rfl) rfl dX0_isLeft_13 ?_
  refine jg_iload_n dX0_isLeft_14 rfl rfl ?_
  refine jg_ld c (pl_9 hb) (by omega) (rfl) dX0_isLeft_15 ?_
  refine jg_top (y := nI (p0F p c)) ((hL.2.1 c hc).1) ?_
  refine jn_icmp_ge (p0F p a) (p0F p c) rfl rfl (by omega) (by omega) 42 dX0_isLeft_16 (by decide) (fun h_16 => ?_) (fun h_16 => ?_)
  · refine jg_iconst (v := 0) dX0_isLeft_42 (by decide) ?_
    exact jg_iret (rfl) dX0_isLeft_43 ⟨_, rfl, ⟨by simp [bI]; omega, rfl⟩⟩
  · refine jg_aload_n dX0_isLeft_19 rfl rfl ?_
    refine jg_getr fk_X0_29 (pl_0 hb) rfl dX0_isLeft_20 ?_
    refine jg_iconst (v := 1) dX0_isLeft_23 (by decide) ?_
    refine jg_aald 1 (pl_8 hb) rfl (Nat.le_of_ble_eq_true rfl) rfl dX0_isLeft_24 ?_
    refine jg_iload_n dX0_isLeft_25 rfl rfl ?_
    refine jg_ld a (pl_10 hb) (by omega) (rfl) dX0_isLeft_26 ?_
    refine jg_top (y := nI (p1F p a)) ((hL.2.1 a ha).2.1) ?_
    refine jg_aload_n dX0_isLeft_27 rfl rfl ?_
    refine jg_getr fk_X0_29 (pl_0 hb) rfl dX0_isLeft_28 ?_
    refine jg_iconst (v := 1) dX0_isLeft_31 (by decide) ?_
    refine jg_aald 1 (pl_8 hb) rfl (Nat.le_of_ble_eq_true rfl) rfl dX0_isLeft_32 ?_
    refine jg_iload_n dX0_isLeft_33 rfl rfl ?_
    refine jg_ld c (pl_10 hb) (by omega) (rfl) dX0_isLeft_34 ?_
    refine jg_top (y := nI (p1F p c)) ((hL.2.1 c hc).2.1) ?_
    refine jn_icmp_ge (p1F p a) (p1F p c) rfl rfl (by omega) (by omega) 42 dX0_isLeft_35 (by decide) (fun h_35 => ?_) (fun h_35 => ?_)
    · refine jg_iconst (v := 0) dX0_isLeft_42 (by decide) ?_
      exact jg_iret (rfl) dX0_isLeft_43 ⟨_, rfl, ⟨by simp [bI]; omega, rfl⟩⟩
    · refine jg_iconst (v := 1) dX0_isLeft_38 (by decide) ?_
      refine jg_goto 43 dX0_isLeft_39 (by decide) ?_
      exact jg_iret (rfl) dX0_isLeft_43 ⟨_, rfl, ⟨by simp [bI]; omega, rfl⟩⟩
set_option maxHeartbeats 4000000 in
set_option maxRecDepth 20000 in
theorem c0_isAbove (E : gT) {b : Nat} (hb : isPl b) (u : Mm) (p : Pic) (hp : PicOk p) (hL : PlL b u p) (a c : Nat) (ha : a < pn p) (hc : c < pn p) : Con E yX0_isAbove cX0_isAbove 3 (some .boolean) 0 [.ref (E.2.1 b), .int (nI a), .int (nI c)] u (kI (fun r u2 => r = bI (decide (p0F p a < p0F p c) && decide (p1F p c < p1F p a)) ∧ u = u2)) := by
  have hn := hp.1
  have a0 : p0F p a < pn p := inv_lt hp.2.2.1 ha
  have a1 : p1F p a < pn p := inv_lt hp.2.2.2 ha
  have c0 : p0F p c < pn p := inv_lt hp.2.2.1 hc
  have c1 : p1F p c < pn p := inv_lt hp.2.2.2 hc
  refine Con.of (lv := [some (.ref (E.2.1 b)), some (.int (nI a)), some (.int (nI c))]) (by decide +kernel) (Nat.le_of_ble_eq_true rfl) rfl ?_
  refine jg_aload_n dX0_isAbove_0 rfl rfl ?_
  refine jg_getr fk_X0_29 (pl_0 hb) rfl dX0_isAbove_1 ?_
  refine jg_iconst (v := 0) dX0_isAbove_4 (by decide) ?_
  refine jg_aald 0 (pl_8 hb) rfl (Nat.le_of_ble_eq_true rfl) rfl dX0_isAbove_5 ?_
  refine jg_iload_n dX0_isAbove_6 rfl rfl ?_
  refine jg_ld a (pl_9 hb) (by omega) (rfl) dX0_isAbove_7 ?_
  refine jg_top (y := nI (p0F p a)) ((hL.2.1 a ha).1) ?_
  refine jg_aload_n dX0_isAbove_8 rfl rfl ?_
  refine jg_getr fk_X0_29 (pl_0 hb) rfl dX0_isAbove_9 ?_
  refine jg_iconst (v := 0) dX0_isAbove_12 (by decide) ?_
  refine jg_aald 0 (pl_8 hb) rfl (Nat.le_of_ble_eq_true rfl) rfl dX0_isAbove_13 ?_
  refine jg_iload_n dX0_isAbove_14 rfl rfl ?_
  refine jg_ld c (pl_9 hb) (by omega) (rfl) dX0_isAbove_15 ?_
  refine jg_top (y := nI (p0F p c)) ((hL.2.1 c hc).1) ?_
  refine jn_icmp_ge (p0F p a) (p0F p c) rfl rfl (by omega) (by omega) 42 dX0_isAbove_16 (by decide) (fun h_16 => ?_) (fun h_16 => ?_)
  · refine jg_iconst (v := 0) dX0_isAbove_42 (by decide) ?_
    exact jg_iret (rfl) dX0_isAbove_43 ⟨_, rfl, ⟨by simp [bI]; omega, rfl⟩⟩
  · refine jg_aload_n dX0_isAbove_19 rfl rfl ?_
    refine jg_getr fk_X0_29 (pl_0 hb) rfl dX0_isAbove_20 ?_
    refine jg_iconst (v := 1) dX0_isAbove_23 (by decide) ?_
    refine jg_aald 1 (pl_8 hb) rfl (Nat.le_of_ble_eq_true rfl) rfl dX0_isAbove_24 ?_
    refine jg_iload_n dX0_isAbove_25 rfl rfl ?_
    refine jg_ld a (pl_10 hb) (by omega) (rfl) dX0_isAbove_26 ?_
    refine jg_top (y := nI (p1F p a)) ((hL.2.1 a ha).2.1) ?_
    refine jg_aload_n dX0_isAbove_27 rfl rfl ?_
    refine jg_getr fk_X0_29 (pl_0 hb) rfl dX0_isAbove_28 ?_
    refine jg_iconst (v := 1) dX0_isAbove_31 (by decide) ?_
    refine jg_aald 1 (pl_8 hb) rfl (Nat.le_of_ble_eq_true rfl) rfl dX0_isAbove_32 ?_
    refine jg_iload_n dX0_isAbove_33 rfl rfl ?_
    refine jg_ld c (pl_10 hb) (by omega) (rfl) dX0_isAbove_34 ?_
    refine jg_top (y := nI (p1F p c)) ((hL.2.1 c hc).2.1) ?_
    refine jn_icmp_le (p1F p a) (p1F p c) rfl rfl (by omega) (by omega) 42 dX0_isAbove_35 (by decide) (fun h_35 => ?_) (fun h_35 => ?_)
    · refine jg_iconst (v := 0) dX0_isAbove_42 (by decide) ?_
      exact jg_iret (rfl) dX0_isAbove_43 ⟨_, rfl, ⟨by simp [bI]; omega, rfl⟩⟩
    · refine jg_iconst (v := 1) dX0_isAbove_38 (by decide) ?_
      refine jg_goto 43 dX0_isAbove_39 (by decide) ?_
      exact jg_iret (rfl) dX0_isAbove_43 ⟨_, rfl, ⟨by simp [bI]; omega, rfl⟩⟩
set_option maxHeartbeats 4000000 in
set_option maxRecDepth 20000 in
theorem c0_touch (E : gT) {b : Nat} (hb : isPl b) (u : Mm) (p : Pic) (hp : PicOk p) (hL : PlL b u p) (a c : Nat) (ha : a < pn p) (hc : c < pn p) : Con E yX0_touch cX0_touch 3 (some .boolean) 1 [.ref (E.2.1 b), .int (nI a), .int (nI c)] u (kI (fun r u2 => r = bI (tchF p a c) ∧ u = u2)) := by
  have hn := hp.1
  have bxa := xF_le hp ha
  have bya := yF_le hp ha
  have bha := hgF_le hp ha
  have bwa := (hp.2.1 _ ha).2.2
  have bxc := xF_le hp hc
  have byc := yF_le hp hc
  have bhc := hgF_le hp hc
  have bwc := (hp.2.1 _ hc).2.2
  refine Con.of (lv := [some (.ref (E.2.1 b)), some (.int (nI a)), some (.int (nI c))]) (by decide +kernel) (Nat.le_of_ble_eq_true rfl) rfl ?_
  refine jg_aload_n dX0_touch_0 rfl rfl ?_
  refine jg_getr fk_X0_35 (pl_0 hb) rfl dX0_touch_1 ?_
  refine jg_iload_n dX0_touch_4 rfl rfl ?_
  refine jg_ld a (pl_12 hb) (by omega) (rfl) dX0_touch_5 ?_
  refine jg_top (y := nI (xF p a)) ((hL.2.1 a ha).2.2.2.1) ?_
  refine jg_aload_n dX0_touch_6 rfl rfl ?_
  refine jg_getr fk_X0_18 (pl_0 hb) rfl dX0_touch_7 ?_
  refine jg_iload_n dX0_touch_10 rfl rfl ?_
  refine jg_ld a (pl_3 hb) (by omega) (rfl) dX0_touch_11 ?_
  refine jg_top (y := nI (p 3 a)) ((hL.1.2 a ha).2.2.1) ?_
  refine jg_aload_n dX0_touch_12 rfl rfl ?_
  refine jg_getr fk_X0_35 (pl_0 hb) rfl dX0_touch_13 ?_
  refine jg_iload_n dX0_touch_16 rfl rfl ?_
  refine jg_ld c (pl_12 hb) (by omega) (rfl) dX0_touch_17 ?_
  refine jg_top (y := nI (xF p c)) ((hL.2.1 c hc).2.2.2.1) ?_
  refine jg_aload_n dX0_touch_18 rfl rfl ?_
  refine jg_getr fk_X0_18 (pl_0 hb) rfl dX0_touch_19 ?_
  refine jg_iload_n dX0_touch_22 rfl rfl ?_
  refine jg_ld c (pl_3 hb) (by omega) (rfl) dX0_touch_23 ?_
  refine jg_top (y := nI (p 3 c)) ((hL.1.2 c hc).2.2.1) ?_
  refine jg_callS (c0_meetN E u (xF p a) (p 3 a) (xF p c) (p 3 c) (by omega) (by omega) (by omega) (by omega)) me_X0_meet ml_X0_102 rfl (by decide) (by decide) rfl (Nat.le_of_ble_eq_true rfl) dX0_touch_24 (kk_I (fun r_24 u_24 h_24 => ?_))
  obtain ⟨rfl, rfl⟩ := h_24
  refine jb_if_eq 60 dX0_touch_27 (by decide) (fun h_27 => ?_) (fun h_27 => ?_)
  · refine jg_aload_n dX0_touch_60 rfl rfl ?_
    refine jg_getr fk_X0_38 (pl_0 hb) rfl dX0_touch_61 ?_
    refine jg_iload_n dX0_touch_64 rfl rfl ?_
    refine jg_ld a (pl_13 hb) (by omega) (rfl) dX0_touch_65 ?_
    refine jg_top (y := nI (yF p a)) ((hL.2.1 a ha).2.2.2.2) ?_
    refine jg_aload_n dX0_touch_66 rfl rfl ?_
    refine jg_getr fk_X0_32 (pl_0 hb) rfl dX0_touch_67 ?_
    refine jg_iload_n dX0_touch_70 rfl rfl ?_
    refine jg_ld a (pl_11 hb) (by omega) (rfl) dX0_touch_71 ?_
    refine jg_top (y := nI (hgF p a)) ((hL.2.1 a ha).2.2.1) ?_
    refine jg_aload_n dX0_touch_72 rfl rfl ?_
    refine jg_getr fk_X0_38 (pl_0 hb) rfl dX0_touch_73 ?_
    refine jg_iload_n dX0_touch_76 rfl rfl ?_
    refine jg_ld c (pl_13 hb) (by omega) (rfl) dX0_touch_77 ?_
    refine jg_top (y := nI (yF p c)) ((hL.2.1 c hc).2.2.2.2) ?_
    refine jg_aload_n dX0_touch_78 rfl rfl ?_
    refine jg_getr fk_X0_32 (pl_0 hb) rfl dX0_touch_79 ?_
    refine jg_iload_n dX0_touch_82 rfl rfl ?_
    refine jg_ld c (pl_11 hb) (by omega) (rfl) dX0_touch_83 ?_
    refine jg_top (y := nI (hgF p c)) ((hL.2.1 c hc).2.2.1) ?_
    refine jg_callS (c0_meetN E u (yF p a) (hgF p a) (yF p c) (hgF p c) (by omega) (by omega) (by omega) (by omega)) me_X0_meet ml_X0_102 rfl (by decide) (by decide) rfl (Nat.le_of_ble_eq_true rfl) dX0_touch_84 (kk_I (fun r_84 u_84 h_84 => ?_))
    obtain ⟨rfl, rfl⟩ := h_84
    refine jb_if_eq 124 dX0_touch_87 (by decide) (fun h_87 => ?_) (fun h_87 => ?_)
    · refine jg_iconst (v := 0) dX0_touch_124 (by decide) ?_
      exact jg_iret (rfl) dX0_touch_125 ⟨_, rfl, ⟨by simp [bI, tchF, *], rfl⟩⟩
    · refine jg_aload_n dX0_touch_90 rfl rfl ?_
      refine jg_getr fk_X0_35 (pl_0 hb) rfl dX0_touch_91 ?_
      refine jg_iload_n dX0_touch_94 rfl rfl ?_
      refine jg_ld a (pl_12 hb) (by omega) (rfl) dX0_touch_95 ?_
      refine jg_top (y := nI (xF p a)) ((hL.2.1 a ha).2.2.2.1) ?_
      refine jg_aload_n dX0_touch_96 rfl rfl ?_
      refine jg_getr fk_X0_18 (pl_0 hb) rfl dX0_touch_97 ?_
      refine jg_iload_n dX0_touch_100 rfl rfl ?_
      refine jg_ld a (pl_3 hb) (by omega) (rfl) dX0_touch_101 ?_
      refine jg_top (y := nI (p 3 a)) ((hL.1.2 a ha).2.2.1) ?_
      refine jg_aload_n dX0_touch_102 rfl rfl ?_
      refine jg_getr fk_X0_35 (pl_0 hb) rfl dX0_touch_103 ?_
      refine jg_iload_n dX0_touch_106 rfl rfl ?_
      refine jg_ld c (pl_12 hb) (by omega) (rfl) dX0_touch_107 ?_
      refine jg_top (y := nI (xF p c)) ((hL.2.1 c hc).2.2.2.1) ?_
      refine jg_aload_n dX0_touch_108 rfl rfl ?_
      refine jg_getr fk_X0_18 (pl_0 hb) rfl dX0_touch_109 ?_
      refine jg_iload_n dX0_touch_112 rfl rfl ?_
      refine jg_ld c (pl_3 hb) (by omega) (rfl) dX0_touch_113 ?_
      refine jg_top (y := nI (p 3 c)) ((hL.1.2 c hc).2.2.1) ?_
      refine jg_callS (c0_shareN E u (xF p a) (p 3 a) (xF p c) (p 3 c) (by omega) (by omega) (by omega) (by omega)) me_X0_share ml_X0_106 rfl (by decide) (by decide) rfl (Nat.le_of_ble_eq_true rfl) dX0_touch_114 (kk_I (fun r_114 u_114 h_114 => ?_))
      obtain ⟨rfl, rfl⟩ := h_114
      refine jb_if_eq 124 dX0_touch_117 (by decide) (fun h_117 => ?_) (fun h_117 => ?_)
      · refine jg_iconst (v := 0) dX0_touch_124 (by decide) ?_
        exact jg_iret (rfl) dX0_touch_125 ⟨_, rfl, ⟨by simp [bI, tchF, *], rfl⟩⟩
      · refine jg_iconst (v := 1) dX0_touch_120 (by decide) ?_
        refine jg_goto 125 dX0_touch_121 (by decide) ?_
        exact jg_iret (rfl) dX0_touch_125 ⟨_, rfl, ⟨by simp [bI, tchF, *], rfl⟩⟩
  · refine jg_aload_n dX0_touch_30 rfl rfl ?_
    refine jg_getr fk_X0_38 (pl_0 hb) rfl dX0_touch_31 ?_
    refine jg_iload_n dX0_touch_34 rfl rfl ?_
    refine jg_ld a (pl_13 hb) (by omega) (rfl) dX0_touch_35 ?_
    refine jg_top (y := nI (yF p a)) ((hL.2.1 a ha).2.2.2.2) ?_
    refine jg_aload_n dX0_touch_36 rfl rfl ?_
    refine jg_getr fk_X0_32 (pl_0 hb) rfl dX0_touch_37 ?_
    refine jg_iload_n dX0_touch_40 rfl rfl ?_
    refine jg_ld a (pl_11 hb) (by omega) (rfl) dX0_touch_41 ?_
    refine jg_top (y := nI (hgF p a)) ((hL.2.1 a ha).2.2.1) ?_
    refine jg_aload_n dX0_touch_42 rfl rfl ?_
    refine jg_getr fk_X0_38 (pl_0 hb) rfl dX0_touch_43 ?_
    refine jg_iload_n dX0_touch_46 rfl rfl ?_
    refine jg_ld c (pl_13 hb) (by omega) (rfl) dX0_touch_47 ?_
    refine jg_top (y := nI (yF p c)) ((hL.2.1 c hc).2.2.2.2) ?_
    refine jg_aload_n dX0_touch_48 rfl rfl ?_
    refine jg_getr fk_X0_32 (pl_0 hb) rfl dX0_touch_49 ?_
    refine jg_iload_n dX0_touch_52 rfl rfl ?_
    refine jg_ld c (pl_11 hb) (by omega) (rfl) dX0_touch_53 ?_
    refine jg_top (y := nI (hgF p c)) ((hL.2.1 c hc).2.2.1) ?_
    refine jg_callS (c0_shareN E u (yF p a) (hgF p a) (yF p c) (hgF p c) (by omega) (by omega) (by omega) (by omega)) me_X0_share ml_X0_106 rfl (by decide) (by decide) rfl (Nat.le_of_ble_eq_true rfl) dX0_touch_54 (kk_I (fun r_54 u_54 h_54 => ?_))
    obtain ⟨rfl, rfl⟩ := h_54
    refine jb_if_ne 120 dX0_touch_57 (by decide) (fun h_57 => ?_) (fun h_57 => ?_)
    · refine jg_iconst (v := 1) dX0_touch_120 (by decide) ?_
      refine jg_goto 125 dX0_touch_121 (by decide) ?_
      exact jg_iret (rfl) dX0_touch_125 ⟨_, rfl, ⟨by simp [bI, tchF, *], rfl⟩⟩
    · refine jg_aload_n dX0_touch_60 rfl rfl ?_
      refine jg_getr fk_X0_38 (pl_0 hb) rfl dX0_touch_61 ?_
      refine jg_iload_n dX0_touch_64 rfl rfl ?_
      refine jg_ld a (pl_13 hb) (by omega) (rfl) dX0_touch_65 ?_
      refine jg_top (y := nI (yF p a)) ((hL.2.1 a ha).2.2.2.2) ?_
      refine jg_aload_n dX0_touch_66 rfl rfl ?_
      refine jg_getr fk_X0_32 (pl_0 hb) rfl dX0_touch_67 ?_
      refine jg_iload_n dX0_touch_70 rfl rfl ?_
      refine jg_ld a (pl_11 hb) (by omega) (rfl) dX0_touch_71 ?_
      refine jg_top (y := nI (hgF p a)) ((hL.2.1 a ha).2.2.1) ?_
      refine jg_aload_n dX0_touch_72 rfl rfl ?_
      refine jg_getr fk_X0_38 (pl_0 hb) rfl dX0_touch_73 ?_
      refine jg_iload_n dX0_touch_76 rfl rfl ?_
      refine jg_ld c (pl_13 hb) (by omega) (rfl) dX0_touch_77 ?_
      refine jg_top (y := nI (yF p c)) ((hL.2.1 c hc).2.2.2.2) ?_
      refine jg_aload_n dX0_touch_78 rfl rfl ?_
      refine jg_getr fk_X0_32 (pl_0 hb) rfl dX0_touch_79 ?_
      refine jg_iload_n dX0_touch_82 rfl rfl ?_
      refine jg_ld c (pl_11 hb) (by omega) (rfl) dX0_touch_83 ?_
      refine jg_top (y := nI (hgF p c)) ((hL.2.1 c hc).2.2.1) ?_
      refine jg_callS (c0_meetN E u (yF p a) (hgF p a) (yF p c) (hgF p c) (by omega) (by omega) (by omega) (by omega)) me_X0_meet ml_X0_102 rfl (by decide) (by decide) rfl (Nat.le_of_ble_eq_true rfl) dX0_touch_84 (kk_I (fun r_84 u_84 h_84 => ?_))
      obtain ⟨rfl, rfl⟩ := h_84
      refine jb_if_eq 124 dX0_touch_87 (by decide) (fun h_87 => ?_) (fun h_87 => ?_)
      · refine jg_iconst (v := 0) dX0_touch_124 (by decide) ?_
        exact jg_iret (rfl) dX0_touch_125 ⟨_, rfl, ⟨by simp [bI, tchF, *], rfl⟩⟩
      · refine jg_aload_n dX0_touch_90 rfl rfl ?_
        refine jg_getr fk_X0_35 (pl_0 hb) rfl dX0_touch_91 ?_
        refine jg_iload_n dX0_touch_94 rfl rfl ?_
        refine jg_ld a (pl_12 hb) (by omega) (rfl) dX0_touch_95 ?_
        refine jg_top (y := nI (xF p a)) ((hL.2.1 a ha).2.2.2.1) ?_
        refine jg_aload_n dX0_touch_96 rfl rfl ?_
        refine jg_getr fk_X0_18 (pl_0 hb) rfl dX0_touch_97 ?_
        refine jg_iload_n dX0_touch_100 rfl rfl ?_
        refine jg_ld a (pl_3 hb) (by omega) (rfl) dX0_touch_101 ?_
        refine jg_top (y := nI (p 3 a)) ((hL.1.2 a ha).2.2.1) ?_
        refine jg_aload_n dX0_touch_102 rfl rfl ?_
        refine jg_getr fk_X0_35 (pl_0 hb) rfl dX0_touch_103 ?_
        refine jg_iload_n dX0_touch_106 rfl rfl ?_
        refine jg_ld c (pl_12 hb) (by omega) (rfl) dX0_touch_107 ?_
        refine jg_top (y := nI (xF p c)) ((hL.2.1 c hc).2.2.2.1) ?_
        refine jg_aload_n dX0_touch_108 rfl rfl ?_
        refine jg_getr fk_X0_18 (pl_0 hb) rfl dX0_touch_109 ?_
        refine jg_iload_n dX0_touch_112 rfl rfl ?_
        refine jg_ld c (pl_3 hb) (by omega) (rfl) dX0_touch_113 ?_
        refine jg_top (y := nI (p 3 c)) ((hL.1.2 c hc).2.2.1) ?_
        refine jg_callS (c0_shareN E u (xF p a) (p 3 a) (xF p c) (p 3 c) (by omega) (by omega) (by omega) (by omega)) me_X0_share ml_X0_106 rfl (by decide) (by decide) rfl (Nat.le_of_ble_eq_true rfl) dX0_touch_114 (kk_I (fun r_114 u_114 h_114 => ?_))
        obtain ⟨rfl, rfl⟩ := h_114
        refine jb_if_eq 124 dX0_touch_117 (by decide) (fun h_117 => ?_) (fun h_117 => ?_)
        · refine jg_iconst (v := 0) dX0_touch_124 (by decide) ?_
          exact jg_iret (rfl) dX0_touch_125 ⟨_, rfl, ⟨by simp [bI, tchF, *], rfl⟩⟩
        · refine jg_iconst (v := 1) dX0_touch_120 (by decide) ?_
          refine jg_goto 125 dX0_touch_121 (by decide) ?_
          exact jg_iret (rfl) dX0_touch_125 ⟨_, rfl, ⟨by simp [bI, tchF, *], rfl⟩⟩
set_option maxHeartbeats 4000000 in
set_option maxRecDepth 20000 in
theorem c0_leftOf (E : gT) {b : Nat} (hb : isPl b) (u : Mm) (p : Pic) (hp : PicOk p) (hL : PlL b u p) (a : Nat) (ha : a < pn p) : Con E yX0_leftOf cX0_leftOf 4 (some .int) 1 [.ref (E.2.1 b), .int (nI a)] u (kI (fun r u2 => r = nI (setF (fun b => decide (p0F p b < p0F p a) && decide (p1F p b < p1F p a)) (pn p)) ∧ u = u2)) := by
  have hn := hp.1
  refine Con.of (lv := [some (.ref (E.2.1 b)), some (.int (nI a)), none, none]) (by decide +kernel) (Nat.le_of_ble_eq_true rfl) rfl ?_
  refine jg_iconst (v := 0) dX0_leftOf_0 (by decide) ?_
  refine jg_istore_n dX0_leftOf_1 rfl (by decide) rfl ?_
  refine jg_iconst (v := 0) dX0_leftOf_2 (by decide) ?_
  refine jg_istore_n dX0_leftOf_3 rfl (by decide) rfl ?_
  have cut_4 : ∀ (m i : Nat), i ≤ pn p → pn p < i + m → G E cX0_leftOf 4 (yX0_leftOf).cls (some .int) 1 (kI (fun r u2 => r = nI (setF (fun b => decide (p0F p b < p0F p a) && decide (p1F p b < p1F p a)) (pn p)) ∧ u = u2)) 4 [some (.ref (E.2.1 b)), some (.int (nI a)), some (.int (nI (setF (fun b => decide (p0F p b < p0F p a) && decide (p1F p b < p1F p a)) i))), some (.int (nI i))] [] u := by
    intro m
    induction m with
    | zero => intro i h1 h2; omega
    | succ m ih =>
      intro i hi hm
      refine jg_iload_n dX0_leftOf_4 rfl rfl ?_
      refine jg_aload_n dX0_leftOf_5 rfl rfl ?_
      refine jg_geti fk_X0_41 (pl_0 hb) rfl dX0_leftOf_6 ?_
      refine jg_top (y := nI (pn p)) (hL.1.1) ?_
      refine jn_icmp_ge i (pn p) rfl rfl (by omega) (by omega) 33 dX0_leftOf_9 (by decide) (fun h_9 => ?_) (fun h_9 => ?_)
      · obtain rfl : i = pn p := by omega
        refine jg_iload_n dX0_leftOf_33 rfl rfl ?_
        exact jg_iret (rfl) dX0_leftOf_34 ⟨_, rfl, ⟨rfl, rfl⟩⟩
      · refine jg_aload_n dX0_leftOf_12 rfl rfl ?_
        refine jg_iload_n dX0_leftOf_13 rfl rfl ?_
        refine jg_iload_n dX0_leftOf_14 rfl rfl ?_
        refine jg_callV (c0_isLeft E hb u p hp hL i a h_9 ha) me_X0_isLeft ml_X0_84 (pl_0 hb) rfl rfl (by decide) (by decide) rfl (Nat.le_of_ble_eq_true rfl) dX0_leftOf_15 (kk_I (fun r_15 u_15 h_15 => ?_))
        obtain ⟨rfl, rfl⟩ := h_15
        refine jb_if_eq 27 dX0_leftOf_18 (by decide) (fun h_18 => ?_) (fun h_18 => ?_)
        · have eS : setF (fun b => decide (p0F p b < p0F p a) && decide (p1F p b < p1F p a)) (i + 1) = setF (fun b => decide (p0F p b < p0F p a) && decide (p1F p b < p1F p a)) i := setF_no (c := fun b => decide (p0F p b < p0F p a) && decide (p1F p b < p1F p a)) h_18
          refine jg_iinc (v := nI (i + 1)) dX0_leftOf_27 rfl (nI_1 i) (by decide) rfl ?_
          refine jg_goto 4 dX0_leftOf_30 (by decide) ?_
          have ih2 := ih (i + 1) (by omega) (by omega)
          first | exact ih2 | (rw [eS] at ih2; exact ih2)
        · have eS : True := trivial
          refine jg_iload_n dX0_leftOf_21 rfl rfl ?_
          refine jg_iconst (v := 1) dX0_leftOf_22 (by decide) ?_
          refine jg_iload_n dX0_leftOf_23 rfl rfl ?_
          refine jg_ishl dX0_leftOf_24 ?_
          refine jg_iorE (z := nI (setF (fun b => decide (p0F p b < p0F p a) && decide (p1F p b < p1F p a)) (i + 1))) dX0_leftOf_25 (orC (fun b => decide (p0F p b < p0F p a) && decide (p1F p b < p1F p a)) (by omega) h_18) ?_
          refine jg_istore_n dX0_leftOf_26 rfl (by decide) rfl ?_
          refine jg_iinc (v := nI (i + 1)) dX0_leftOf_27 rfl (nI_1 i) (by decide) rfl ?_
          refine jg_goto 4 dX0_leftOf_30 (by decide) ?_
          have ih2 := ih (i + 1) (by omega) (by omega)
          first | exact ih2 | (rw [eS] at ih2; exact ih2)
  exact cut_4 (pn p + 1) 0 (Nat.zero_le _) (by omega)
set_option maxHeartbeats 4000000 in
set_option maxRecDepth 20000 in
theorem c0_aboveOf (E : gT) {b : Nat} (hb : isPl b) (u : Mm) (p : Pic) (hp : PicOk p) (hL : PlL b u p) (a : Nat) (ha : a < pn p) : Con E yX0_aboveOf cX0_aboveOf 4 (some .int) 1 [.ref (E.2.1 b), .int (nI a)] u (kI (fun r u2 => r = nI (setF (fun b => decide (p0F p b < p0F p a) && decide (p1F p a < p1F p b)) (pn p)) ∧ u = u2)) := by
  have hn := hp.1
  refine Con.of (lv := [some (.ref (E.2.1 b)), some (.int (nI a)), none, none]) (by decide +kernel) (Nat.le_of_ble_eq_true rfl) rfl ?_
  refine jg_iconst (v := 0) dX0_aboveOf_0 (by decide) ?_
  refine jg_istore_n dX0_aboveOf_1 rfl (by decide) rfl ?_
  refine jg_iconst (v := 0) dX0_aboveOf_2 (by decide) ?_
  refine jg_istore_n dX0_aboveOf_3 rfl (by decide) rfl ?_
  have cut_4 : ∀ (m i : Nat), i ≤ pn p → pn p < i + m → G E cX0_aboveOf 4 (yX0_aboveOf).cls (some .int) 1 (kI (fun r u2 => r = nI (setF (fun b => decide (p0F p b < p0F p a) && decide (p1F p a < p1F p b)) (pn p)) ∧ u = u2)) 4 [some (.ref (E.2.1 b)), some (.int (nI a)), some (.int (nI (setF (fun b => decide (p0F p b < p0F p a) && decide (p1F p a < p1F p b)) i))), some (.int (nI i))] [] u := by
    intro m
    induction m with
    | zero => intro i h1 h2; omega
    | succ m ih =>
      intro i hi hm
      refine jg_iload_n dX0_aboveOf_4 rfl rfl ?_
      refine jg_aload_n dX0_aboveOf_5 rfl rfl ?_
      refine jg_geti fk_X0_41 (pl_0 hb) rfl dX0_aboveOf_6 ?_
      refine jg_top (y := nI (pn p)) (hL.1.1) ?_
      refine jn_icmp_ge i (pn p) rfl rfl (by omega) (by omega) 33 dX0_aboveOf_9 (by decide) (fun h_9 => ?_) (fun h_9 => ?_)
      · obtain rfl : i = pn p := by omega
        refine jg_iload_n dX0_aboveOf_33 rfl rfl ?_
        exact jg_iret (rfl) dX0_aboveOf_34 ⟨_, rfl, ⟨rfl, rfl⟩⟩
      · refine jg_aload_n dX0_aboveOf_12 rfl rfl ?_
        refine jg_iload_n dX0_aboveOf_13 rfl rfl ?_
        refine jg_iload_n dX0_aboveOf_14 rfl rfl ?_
        refine jg_callV (c0_isAbove E hb u p hp hL i a h_9 ha) me_X0_isAbove ml_X0_88 (pl_0 hb) rfl rfl (by decide) (by decide) rfl (Nat.le_of_ble_eq_true rfl) dX0_aboveOf_15 (kk_I (fun r_15 u_15 h_15 => ?_))
        obtain ⟨rfl, rfl⟩ := h_15
        refine jb_if_eq 27 dX0_aboveOf_18 (by decide) (fun h_18 => ?_) (fun h_18 => ?_)
        · have eS : setF (fun b => decide (p0F p b < p0F p a) && decide (p1F p a < p1F p b)) (i + 1) = setF (fun b => decide (p0F p b < p0F p a) && decide (p1F p a < p1F p b)) i := setF_no (c := fun b => decide (p0F p b < p0F p a) && decide (p1F p a < p1F p b)) h_18
          refine jg_iinc (v := nI (i + 1)) dX0_aboveOf_27 rfl (nI_1 i) (by decide) rfl ?_
          refine jg_goto 4 dX0_aboveOf_30 (by decide) ?_
          have ih2 := ih (i + 1) (by omega) (by omega)
          first | exact ih2 | (rw [eS] at ih2; exact ih2)
        · have eS : True := trivial
          refine jg_iload_n dX0_aboveOf_21 rfl rfl ?_
          refine jg_iconst (v := 1) dX0_aboveOf_22 (by decide) ?_
          refine jg_iload_n dX0_aboveOf_23 rfl rfl ?_
          refine jg_ishl dX0_aboveOf_24 ?_
          refine jg_iorE (z := nI (setF (fun b => decide (p0F p b < p0F p a) && decide (p1F p a < p1F p b)) (i + 1))) dX0_aboveOf_25 (orC (fun b => decide (p0F p b < p0F p a) && decide (p1F p a < p1F p b)) (by omega) h_18) ?_
          refine jg_istore_n dX0_aboveOf_26 rfl (by decide) rfl ?_
          refine jg_iinc (v := nI (i + 1)) dX0_aboveOf_27 rfl (nI_1 i) (by decide) rfl ?_
          refine jg_goto 4 dX0_aboveOf_30 (by decide) ?_
          have ih2 := ih (i + 1) (by omega) (by omega)
          first | exact ih2 | (rw [eS] at ih2; exact ih2)
  exact cut_4 (pn p + 1) 0 (Nat.zero_le _) (by omega)
set_option maxHeartbeats 4000000 in
set_option maxRecDepth 20000 in
theorem c0_touching (E : gT) {b : Nat} (hb : isPl b) (u : Mm) (p : Pic) (hp : PicOk p) (hL : PlL b u p) (a : Nat) (ha : a < pn p) : Con E yX0_touching cX0_touching 4 (some .int) 2 [.ref (E.2.1 b), .int (nI a)] u (kI (fun r u2 => r = nI (setF (tchF p a) (pn p)) ∧ u = u2)) := by
  have hn := hp.1
  refine Con.of (lv := [some (.ref (E.2.1 b)), some (.int (nI a)), none, none]) (by decide +kernel) (Nat.le_of_ble_eq_true rfl) rfl ?_
  refine jg_iconst (v := 0) dX0_touching_0 (by decide) ?_
  refine jg_istore_n dX0_touching_1 rfl (by decide) rfl ?_
  refine jg_iconst (v := 0) dX0_touching_2 (by decide) ?_
  refine jg_istore_n dX0_touching_3 rfl (by decide) rfl ?_
  have cut_4 : ∀ (m i : Nat), i ≤ pn p → pn p < i + m → G E cX0_touching 4 (yX0_touching).cls (some .int) 2 (kI (fun r u2 => r = nI (setF (tchF p a) (pn p)) ∧ u = u2)) 4 [some (.ref (E.2.1 b)), some (.int (nI a)), some (.int (nI (setF (tchF p a) i))), some (.int (nI i))] [] u := by
    intro m
    induction m with
    | zero => intro i h1 h2; omega
    | succ m ih =>
      intro i hi hm
      refine jg_iload_n dX0_touching_4 rfl rfl ?_
      refine jg_aload_n dX0_touching_5 rfl rfl ?_
      refine jg_geti fk_X0_41 (pl_0 hb) rfl dX0_touching_6 ?_
      refine jg_top (y := nI (pn p)) (hL.1.1) ?_
      refine jn_icmp_ge i (pn p) rfl rfl (by omega) (by omega) 33 dX0_touching_9 (by decide) (fun h_9 => ?_) (fun h_9 => ?_)
      · obtain rfl : i = pn p := by omega
        refine jg_iload_n dX0_touching_33 rfl rfl ?_
        exact jg_iret (rfl) dX0_touching_34 ⟨_, rfl, ⟨rfl, rfl⟩⟩
      · refine jg_aload_n dX0_touching_12 rfl rfl ?_
        refine jg_iload_n dX0_touching_13 rfl rfl ?_
        refine jg_iload_n dX0_touching_14 rfl rfl ?_
        refine jg_callV (c0_touch E hb u p hp hL a i ha h_9) me_X0_touch ml_X0_91 (pl_0 hb) rfl rfl (by decide) (by decide) rfl (Nat.le_of_ble_eq_true rfl) dX0_touching_15 (kk_I (fun r_15 u_15 h_15 => ?_))
        obtain ⟨rfl, rfl⟩ := h_15
        refine jb_if_eq 27 dX0_touching_18 (by decide) (fun h_18 => ?_) (fun h_18 => ?_)
        · have eS : setF (tchF p a) (i + 1) = setF (tchF p a) i := setF_no (c := tchF p a) h_18
          refine jg_iinc (v := nI (i + 1)) dX0_touching_27 rfl (nI_1 i) (by decide) rfl ?_
          refine jg_goto 4 dX0_touching_30 (by decide) ?_
          have ih2 := ih (i + 1) (by omega) (by omega)
          first | exact ih2 | (rw [eS] at ih2; exact ih2)
        · have eS : True := trivial
          refine jg_iload_n dX0_touching_21 rfl rfl ?_
          refine jg_iconst (v := 1) dX0_touching_22 (by decide) ?_
          refine jg_iload_n dX0_touching_23 rfl rfl ?_
          refine jg_ishl dX0_touching_24 ?_
          refine jg_iorE (z := nI (setF (tchF p a) (i + 1))) dX0_touching_25 (orC (tchF p a) (by omega) h_18) ?_
          refine jg_istore_n dX0_touching_26 rfl (by decide) rfl ?_
          refine jg_iinc (v := nI (i + 1)) dX0_touching_27 rfl (nI_1 i) (by decide) rfl ?_
          refine jg_goto 4 dX0_touching_30 (by decide) ?_
          have ih2 := ih (i + 1) (by omega) (by omega)
          first | exact ih2 | (rw [eS] at ih2; exact ih2)
  exact cut_4 (pn p + 1) 0 (Nat.zero_le _) (by omega)
end
section
theorem pl_apart {b c : Nat} (hb : isPl b) (hc : isPl c) (h : b ≠ c) : b + 13 < c ∨ c + 13 < b := by
  unfold isPl at hb hc
  omega
theorem pl_w {b w : Nat} (hb : isPl b) (hw : w < 2) : sTb[b + 6 + w]? = some (.inr (.inl 6)) := by
  rcases (show w = 0 ∨ w = 1 by omega) with rfl | rfl
  · exact pl_6 hb
  · exact pl_7 hb
theorem at_w {b w : Nat} (hw : w < 2) : [b + 6, b + 7][w]? = some (b + 6 + w) := by
  rcases (show w = 0 ∨ w = 1 by omega) with rfl | rfl <;> rfl
def cpR (u : Mm) (k0 k1 : Nat) : Mm := sR u k1 (va_cpy (u k0) (u k1) 0 0 6)
theorem cpR_row {u : Mm} {k0 k1 k : Nat} (h : k ≠ k1) : cpR u k0 k1 k = u k := sR_row h
theorem cpR_at {u : Mm} {k0 k1 i : Nat} (h : i < 6) : cpR u k0 k1 k1 i = u k0 i := by
  unfold cpR
  rw [sR_at, pk_cpy_in (Nat.zero_le _) (by omega)]
  congr 1
  omega
def cpP (u : Mm) (c b : Nat) : Mm := cpR (cpR (cpR (cpR (cpR (cpR (s2 u b 0 (u c 0)) (c + 1) (b + 1)) (c + 2) (b + 2)) (c + 3) (b + 3)) (c + 4) (b + 4)) (c + 6) (b + 6)) (c + 7) (b + 7)
theorem cpP_out {u : Mm} {c b k : Nat} (h : k < b ∨ b + 7 < k) : cpP u c b k = u k := by
  unfold cpP
  rw [cpR_row (by omega), cpR_row (by omega), cpR_row (by omega), cpR_row (by omega), cpR_row (by omega), cpR_row (by omega), s2_row (by omega)]
theorem cpP_self {u : Mm} {c b j : Nat} (h : j ≠ 0) : cpP u c b b j = u b j := by
  unfold cpP
  rw [cpR_row (by omega), cpR_row (by omega), cpR_row (by omega), cpR_row (by omega), cpR_row (by omega), cpR_row (by omega), s2_ne h]
theorem cpP_n {u : Mm} {c b : Nat} : cpP u c b b 0 = u c 0 := by
  unfold cpP
  rw [cpR_row (by omega), cpR_row (by omega), cpR_row (by omega), cpR_row (by omega), cpR_row (by omega), cpR_row (by omega), s2_self]
theorem cpP_1 {u : Mm} {c b i : Nat} (h : b + 13 < c ∨ c + 13 < b) (hi : i < 6) : cpP u c b (b + 1) i = u (c + 1) i := by
  unfold cpP
  rw [cpR_row (by omega), cpR_row (by omega), cpR_row (by omega), cpR_row (by omega), cpR_row (by omega), cpR_at hi, s2_row (by omega)]
theorem cpP_2 {u : Mm} {c b i : Nat} (h : b + 13 < c ∨ c + 13 < b) (hi : i < 6) : cpP u c b (b + 2) i = u (c + 2) i := by
  unfold cpP
  rw [cpR_row (by omega), cpR_row (by omega), cpR_row (by omega), cpR_row (by omega), cpR_at hi, cpR_row (by omega), s2_row (by omega)]
theorem cpP_3 {u : Mm} {c b i : Nat} (h : b + 13 < c ∨ c + 13 < b) (hi : i < 6) : cpP u c b (b + 3) i = u (c + 3) i := by
  unfold cpP
  rw [cpR_row (by omega), cpR_row (by omega), cpR_row (by omega), cpR_at hi, cpR_row (by omega), cpR_row (by omega), s2_row (by omega)]
theorem cpP_4 {u : Mm} {c b i : Nat} (h : b + 13 < c ∨ c + 13 < b) (hi : i < 6) : cpP u c b (b + 4) i = u (c + 4) i := by
  unfold cpP
  rw [cpR_row (by omega), cpR_row (by omega), cpR_at hi, cpR_row (by omega), cpR_row (by omega), cpR_row (by omega), s2_row (by omega)]
theorem cpP_6 {u : Mm} {c b i : Nat} (h : b + 13 < c ∨ c + 13 < b) (hi : i < 6) : cpP u c b (b + 6) i = u (c + 6) i := by
  unfold cpP
  rw [cpR_row (by omega), cpR_at hi, cpR_row (by omega), cpR_row (by omega), cpR_row (by omega), cpR_row (by omega), s2_row (by omega)]
theorem cpP_7 {u : Mm} {c b i : Nat} (h : b + 13 < c ∨ c + 13 < b) (hi : i < 6) : cpP u c b (b + 7) i = u (c + 7) i := by
  unfold cpP
  rw [cpR_at hi, cpR_row (by omega), cpR_row (by omega), cpR_row (by omega), cpR_row (by omega), cpR_row (by omega), s2_row (by omega)]
theorem cpP_pl {u : Mm} {c b : Nat} {p : Pic} (hp : PicOk p) (h : b + 13 < c ∨ c + 13 < b) (hP : PlB c u p) : PlB b (cpP u c b) p := by
  have hn := hp.1
  refine ⟨cpP_n.trans hP.1, fun i hi => ?_⟩
  rw [cpP_1 h (by omega), cpP_2 h (by omega), cpP_3 h (by omega), cpP_6 h (by omega), cpP_7 h (by omega)]
  exact hP.2 i hi
/-- a plan's rows are written, none else -/
def PF (b : Nat) (u v : Mm) : Prop := ∀ k, (k < b ∨ b + 13 < k) → v k = u k
theorem PF.rf {b : Nat} {u : Mm} : PF b u u := fun _ _ => rfl
theorem PF.tr {b : Nat} {u v w : Mm} (h : PF b u v) (h2 : PF b v w) : PF b u w := fun k hk => (h2 k hk).trans (h k hk)
theorem LF.pf {b : Nat} {u v : Mm} (h : LF b u v) : PF b u v := fun k hk => h.1 k (by omega) (by omega)
theorem PF.put {b k j : Nat} {u v : Mm} {x : Int32} (h : PF b u v) (h1 : b ≤ k) (h2 : k ≤ b + 13) : PF b u (s2 v k j x) := fun a ha => by rw [s2_row (by omega)]; exact h a ha
theorem PlL.apart {b c : Nat} {u v : Mm} {p : Pic} (h : PlL c u p) (f : PF b u v) (ha : b + 13 < c ∨ c + 13 < b) : PlL c v p := by
  obtain ⟨⟨h1, h2⟩, h3, h4, h5⟩ := h
  refine ⟨⟨by rw [f c (by omega)]; exact h1, fun i hi => ?_⟩, fun a h9 => ?_, by rw [f c (by omega)]; exact h4, by rw [f c (by omega)]; exact h5⟩
  · rw [f (c + 1) (by omega), f (c + 2) (by omega), f (c + 3) (by omega), f (c + 6) (by omega), f (c + 7) (by omega)]
    exact h2 i hi
  · rw [f (c + 9) (by omega), f (c + 10) (by omega), f (c + 11) (by omega), f (c + 12) (by omega), f (c + 13) (by omega)]
    exact h3 a h9
/-- writing a width, a plot, a kind into a plan's rows -/
theorem PlB.wd {b : Nat} {u : Mm} {p : Pic} (h : PlB b u p) (a v : Nat) : PlB b (s2 u (b + 3) a (nI v)) (upP p 3 a v) := by
  refine ⟨by rw [s2_row (by omega)]; exact h.1, fun i hi => ?_⟩
  obtain ⟨h1, h2, h3, h4, h5⟩ := h.2 i hi
  rw [s2_row (by omega), s2_row (by omega), s2_row (a := b + 6) (by omega), s2_row (a := b + 7) (by omega)]
  refine ⟨h1, h2, ?_, h4, h5⟩
  by_cases e : i = a
  · subst e; rw [s2_self, upP_self]
  · rw [s2_ne e, upP_ne e]; exact h3
theorem PlB.pt {b : Nat} {u : Mm} {p : Pic} (h : PlB b u p) (a v : Nat) : PlB b (s2 u (b + 2) a (nI v)) (upP p 2 a v) := by
  refine ⟨by rw [s2_row (by omega)]; exact h.1, fun i hi => ?_⟩
  obtain ⟨h1, h2, h3, h4, h5⟩ := h.2 i hi
  rw [s2_row (a := b + 1) (by omega), s2_row (a := b + 3) (by omega), s2_row (a := b + 6) (by omega), s2_row (a := b + 7) (by omega)]
  refine ⟨h1, ?_, h3, h4, h5⟩
  by_cases e : i = a
  · subst e; rw [s2_self, upP_self]
  · rw [s2_ne e, upP_ne e]; exact h2
theorem PlB.kn {b : Nat} {u : Mm} {p : Pic} (h : PlB b u p) (a v : Nat) : PlB b (s2 u (b + 1) a (nI v)) (upP p 1 a v) := by
  refine ⟨by rw [s2_row (by omega)]; exact h.1, fun i hi => ?_⟩
  obtain ⟨h1, h2, h3, h4, h5⟩ := h.2 i hi
  rw [s2_row (a := b + 2) (by omega), s2_row (a := b + 3) (by omega), s2_row (a := b + 6) (by omega), s2_row (a := b + 7) (by omega)]
  refine ⟨?_, h2, h3, h4, h5⟩
  by_cases e : i = a
  · subst e; rw [s2_self, upP_self]
  · rw [s2_ne e, upP_ne e]; exact h1
theorem upP_back (p : Pic) (j a v w : Nat) : upP (upP p j a v) j a w = upP p j a w := by
  funext i k
  unfold upP
  by_cases h : i = j
  · rw [if_pos h, if_pos h, if_pos rfl]
    by_cases h2 : k = a
    · rw [if_pos h2, if_pos h2]
    · rw [if_neg h2, if_neg h2, if_neg h2]
  · rw [if_neg h, if_neg h, if_neg h]
theorem upP_same (p : Pic) (j a : Nat) : upP p j a (p j a) = p := by
  funext i k
  unfold upP
  by_cases h : i = j
  · subst h
    rw [if_pos rfl]
    by_cases h2 : k = a
    · subst h2; rw [if_pos rfl]
    · rw [if_neg h2]
  · rw [if_neg h]
theorem s2_back {u v : Mm} {k j : Nat} {x : Int32} (hv : v k = upd (u k) j x) : s2 v k j (u k j) k = u k := by
  rw [s2_at, hv]
  funext i
  by_cases h : i = j
  · subst h; exact pk_us
  · rw [pk_un h, pk_un h]
theorem popAll : ∀ s, s < 64 → pcN s ≤ 6 := fun s _ => pcN_le s
end
section
set_option maxHeartbeats 4000000 in
set_option maxRecDepth 20000 in
theorem cJ_bitCount (E : gT) (u : Mm) (s : Nat) (hs : s < 64) : Con E yJ6_bitCount_0f7a4 cJ6_bitCount_0f7a4 1 (some .int) 0 [.int (nI s)] u (kI (fun r u2 => r = nI (pcN s) ∧ u = u2)) := by
  refine Con.of (lv := [some (.int (nI s))]) (by decide +kernel) (Nat.le_of_ble_eq_true rfl) rfl ?_
  refine jg_iload_n dJ6_bitCount_0f7a4_0 rfl rfl ?_
  refine jg_iload_n dJ6_bitCount_0f7a4_1 rfl rfl ?_
  refine jg_iconst (v := 1) dJ6_bitCount_0f7a4_2 (by decide) ?_
  refine jg_iushr dJ6_bitCount_0f7a4_3 rfl ?_
  refine jg_ldcw kc_J6_265 dJ6_bitCount_0f7a4_4 ?_
  refine jg_iand dJ6_bitCount_0f7a4_7 ?_
  refine jg_isub dJ6_bitCount_0f7a4_8 ?_
  refine jg_istore_n dJ6_bitCount_0f7a4_9 rfl (by decide) rfl ?_
  refine jg_iload_n dJ6_bitCount_0f7a4_10 rfl rfl ?_
  refine jg_ldcw kc_J6_266 dJ6_bitCount_0f7a4_11 ?_
  refine jg_iand dJ6_bitCount_0f7a4_14 ?_
  refine jg_iload_n dJ6_bitCount_0f7a4_15 rfl rfl ?_
  refine jg_iconst (v := 2) dJ6_bitCount_0f7a4_16 (by decide) ?_
  refine jg_iushr dJ6_bitCount_0f7a4_17 rfl ?_
  refine jg_ldcw kc_J6_266 dJ6_bitCount_0f7a4_18 ?_
  refine jg_iand dJ6_bitCount_0f7a4_21 ?_
  refine jg_iadd dJ6_bitCount_0f7a4_22 ?_
  refine jg_istore_n dJ6_bitCount_0f7a4_23 rfl (by decide) rfl ?_
  refine jg_iload_n dJ6_bitCount_0f7a4_24 rfl rfl ?_
  refine jg_iload_n dJ6_bitCount_0f7a4_25 rfl rfl ?_
  refine jg_iconst (v := 4) dJ6_bitCount_0f7a4_26 (by decide) ?_
  refine jg_iushr dJ6_bitCount_0f7a4_27 rfl ?_
  refine jg_iadd dJ6_bitCount_0f7a4_28 ?_
  refine jg_ldcw kc_J6_267 dJ6_bitCount_0f7a4_29 ?_
  refine jg_iand dJ6_bitCount_0f7a4_32 ?_
  refine jg_istore_n dJ6_bitCount_0f7a4_33 rfl (by decide) rfl ?_
  refine jg_iload_n dJ6_bitCount_0f7a4_34 rfl rfl ?_
  refine jg_iload_n dJ6_bitCount_0f7a4_35 rfl rfl ?_
  refine jg_bipush (v := 8) dJ6_bitCount_0f7a4_36 (by decide) ?_
  refine jg_iushr dJ6_bitCount_0f7a4_38 rfl ?_
  refine jg_iadd dJ6_bitCount_0f7a4_39 ?_
  refine jg_istore_n dJ6_bitCount_0f7a4_40 rfl (by decide) rfl ?_
  refine jg_iload_n dJ6_bitCount_0f7a4_41 rfl rfl ?_
  refine jg_iload_n dJ6_bitCount_0f7a4_42 rfl rfl ?_
  refine jg_bipush (v := 16) dJ6_bitCount_0f7a4_43 (by decide) ?_
  refine jg_iushr dJ6_bitCount_0f7a4_45 rfl ?_
  refine jg_iadd dJ6_bitCount_0f7a4_46 ?_
  refine jg_istore_n dJ6_bitCount_0f7a4_47 rfl (by decide) rfl ?_
  refine jg_iload_n dJ6_bitCount_0f7a4_48 rfl rfl ?_
  refine jg_bipush (v := 63) dJ6_bitCount_0f7a4_49 (by decide) ?_
  refine jg_iand dJ6_bitCount_0f7a4_51 ?_
  exact jg_iret (rfl) dJ6_bitCount_0f7a4_52 ⟨_, rfl, ⟨by revert s; decide +kernel, rfl⟩⟩
set_option maxHeartbeats 4000000 in
set_option maxRecDepth 20000 in
theorem c0_touchingTwos (E : gT) {b : Nat} (hb : isPl b) (u : Mm) (p : Pic) (hp : PicOk p) (hL : PlL b u p) : Con E yX0_touchingTwos cX0_touchingTwos 3 (some .int) 3 [.ref (E.2.1 b)] u (kI (fun r u2 => r = nI (twosF p (pn p) / 2) ∧ u = u2)) := by
  have hn := hp.1
  refine Con.of (lv := [some (.ref (E.2.1 b)), none, none]) (by decide +kernel) (Nat.le_of_ble_eq_true rfl) rfl ?_
  refine jg_iconst (v := 0) dX0_touchingTwos_0 (by decide) ?_
  refine jg_istore_n dX0_touchingTwos_1 rfl (by decide) rfl ?_
  refine jg_iconst (v := 0) dX0_touchingTwos_2 (by decide) ?_
  refine jg_istore_n dX0_touchingTwos_3 rfl (by decide) rfl ?_
  have cut_4 : ∀ (m i : Nat), i ≤ pn p → pn p < i + m → G E cX0_touchingTwos 3 (yX0_touchingTwos).cls (some .int) 3 (kI (fun r u2 => r = nI (twosF p (pn p) / 2) ∧ u = u2)) 4 [some (.ref (E.2.1 b)), some (.int (nI (twosF p i))), some (.int (nI i))] [] u := by
    intro m
    induction m with
    | zero => intro i h1 h2; omega
    | succ m ih =>
      intro i hi hm
      refine jg_iload_n dX0_touchingTwos_4 rfl rfl ?_
      refine jg_aload_n dX0_touchingTwos_5 rfl rfl ?_
      refine jg_geti fk_X0_41 (pl_0 hb) rfl dX0_touchingTwos_6 ?_
      refine jg_top (y := nI (pn p)) (hL.1.1) ?_
      refine jn_icmp_ge i (pn p) rfl rfl (by omega) (by omega) 29 dX0_touchingTwos_9 (by decide) (fun h_9 => ?_) (fun h_9 => ?_)
      · obtain rfl : i = pn p := by omega
        refine jg_iload_n dX0_touchingTwos_29 rfl rfl ?_
        refine jg_iconst (v := 2) dX0_touchingTwos_30 (by decide) ?_
        refine jg_idivE (z := nI (twosF p (pn p) / 2)) dX0_touchingTwos_31 (by decide) (pk_div (d := 2) (by have := twosF_le p (pn p); omega) (by omega) (by omega)) ?_
        exact jg_iret (rfl) dX0_touchingTwos_32 ⟨_, rfl, ⟨rfl, rfl⟩⟩
      · refine jg_iload_n dX0_touchingTwos_12 rfl rfl ?_
        refine jg_aload_n dX0_touchingTwos_13 rfl rfl ?_
        refine jg_iload_n dX0_touchingTwos_14 rfl rfl ?_
        refine jg_callV (c0_touching E hb u p hp hL i h_9) me_X0_touching ml_X0_94 (pl_0 hb) rfl rfl (by decide) (by decide) rfl (Nat.le_of_ble_eq_true rfl) dX0_touchingTwos_15 (kk_I (fun r_15 u_15 h_15 => ?_))
        obtain ⟨rfl, rfl⟩ := h_15
        refine jg_callS (cJ_bitCount E u _ (setF_64 (tchF p i) hn)) me_J6_bitCount_0f7a4 ml_X0_97 rfl (by decide) (by decide) rfl (Nat.le_of_ble_eq_true rfl) dX0_touchingTwos_18 (kk_I (fun r_18 u_18 h_18 => ?_))
        obtain ⟨rfl, rfl⟩ := h_18
        refine jg_iaddE (z := nI ((twosF p i) + (pcN (setF (tchF p i) (pn p))))) dX0_touchingTwos_21 (nI_add (twosF p i) (pcN (setF (tchF p i) (pn p)))) ?_
        refine jg_istore_n dX0_touchingTwos_22 rfl (by decide) rfl ?_
        refine jg_iinc (v := nI (i + 1)) dX0_touchingTwos_23 rfl (nI_1 i) (by decide) rfl ?_
        refine jg_goto 4 dX0_touchingTwos_26 (by decide) ?_
        exact ih (i + 1) (by omega) (by omega)
  exact cut_4 (pn p + 1) 0 (Nat.zero_le _) (by omega)
set_option maxHeartbeats 4000000 in
set_option maxRecDepth 20000 in
theorem c0_waste (E : gT) {b : Nat} (hb : isPl b) (u : Mm) (p : Pic) (hp : PicOk p) (hL : PlL b u p) : Con E yX0_waste cX0_waste 3 (some .int) 0 [.ref (E.2.1 b)] u (kI (fun r u2 => r = nI (brP p * dpP p) - nI (usedF p (pn p)) ∧ u = u2)) := by
  have hn := hp.1
  refine Con.of (lv := [some (.ref (E.2.1 b)), none, none]) (by decide +kernel) (Nat.le_of_ble_eq_true rfl) rfl ?_
  refine jg_iconst (v := 0) dX0_waste_0 (by decide) ?_
  refine jg_istore_n dX0_waste_1 rfl (by decide) rfl ?_
  refine jg_iconst (v := 0) dX0_waste_2 (by decide) ?_
  refine jg_istore_n dX0_waste_3 rfl (by decide) rfl ?_
  have cut_4 : ∀ (m i : Nat), i ≤ pn p → pn p < i + m → G E cX0_waste 3 (yX0_waste).cls (some .int) 0 (kI (fun r u2 => r = nI (brP p * dpP p) - nI (usedF p (pn p)) ∧ u = u2)) 4 [some (.ref (E.2.1 b)), some (.int (nI (usedF p i))), some (.int (nI i))] [] u := by
    intro m
    induction m with
    | zero => intro i h1 h2; omega
    | succ m ih =>
      intro i hi hm
      refine jg_iload_n dX0_waste_4 rfl rfl ?_
      refine jg_aload_n dX0_waste_5 rfl rfl ?_
      refine jg_geti fk_X0_41 (pl_0 hb) rfl dX0_waste_6 ?_
      refine jg_top (y := nI (pn p)) (hL.1.1) ?_
      refine jn_icmp_ge i (pn p) rfl rfl (by omega) (by omega) 34 dX0_waste_9 (by decide) (fun h_9 => ?_) (fun h_9 => ?_)
      · obtain rfl : i = pn p := by omega
        refine jg_aload_n dX0_waste_34 rfl rfl ?_
        refine jg_geti fk_X0_61 (pl_0 hb) rfl dX0_waste_35 ?_
        refine jg_top (y := nI (brP p)) (hL.2.2.1) ?_
        refine jg_aload_n dX0_waste_38 rfl rfl ?_
        refine jg_geti fk_X0_64 (pl_0 hb) rfl dX0_waste_39 ?_
        refine jg_top (y := nI (dpP p)) (hL.2.2.2) ?_
        refine jg_imulE (z := nI ((brP p) * (dpP p))) dX0_waste_42 (pk_mul (brP p) (dpP p)) ?_
        refine jg_iload_n dX0_waste_43 rfl rfl ?_
        refine jg_isub dX0_waste_44 ?_
        exact jg_iret (rfl) dX0_waste_45 ⟨_, rfl, ⟨rfl, rfl⟩⟩
      · refine jg_iload_n dX0_waste_12 rfl rfl ?_
        refine jg_aload_n dX0_waste_13 rfl rfl ?_
        refine jg_getr fk_X0_18 (pl_0 hb) rfl dX0_waste_14 ?_
        refine jg_iload_n dX0_waste_17 rfl rfl ?_
        refine jg_ld i (pl_3 hb) (by omega) (rfl) dX0_waste_18 ?_
        refine jg_top (y := nI (p 3 i)) ((hL.1.2 i h_9).2.2.1) ?_
        refine jg_aload_n dX0_waste_19 rfl rfl ?_
        refine jg_getr fk_X0_32 (pl_0 hb) rfl dX0_waste_20 ?_
        refine jg_iload_n dX0_waste_23 rfl rfl ?_
        refine jg_ld i (pl_11 hb) (by omega) (rfl) dX0_waste_24 ?_
        refine jg_top (y := nI (hgF p i)) ((hL.2.1 i h_9).2.2.1) ?_
        refine jg_imulE (z := nI ((p 3 i) * (hgF p i))) dX0_waste_25 (pk_mul (p 3 i) (hgF p i)) ?_
        refine jg_iaddE (z := nI ((usedF p i) + ((p 3 i) * (hgF p i)))) dX0_waste_26 (nI_add (usedF p i) ((p 3 i) * (hgF p i))) ?_
        refine jg_istore_n dX0_waste_27 rfl (by decide) rfl ?_
        refine jg_iinc (v := nI (i + 1)) dX0_waste_28 rfl (nI_1 i) (by decide) rfl ?_
        refine jg_goto 4 dX0_waste_31 (by decide) ?_
        exact ih (i + 1) (by omega) (by omega)
  exact cut_4 (pn p + 1) 0 (Nat.zero_le _) (by omega)
set_option maxHeartbeats 4000000 in
set_option maxRecDepth 20000 in
theorem c0_isCritical (E : gT) {b : Nat} (hb : isPl b) (u : Mm) (p : Pic) (hp : PicOk p) (hL : PlL b u p) (a : Nat) (ha : a < pn p) (h1 : 1 ≤ p 3 a) : Con E yX0_isCritical cX0_isCritical 4 (some .boolean) 3 [.ref (E.2.1 b), .int (nI a)] u (kI (fun r u2 => r = bI (crF p a) ∧ LF b u u2 ∧ PlL b u2 p)) := by
  have hn := hp.1
  have hw := (hp.2.1 a ha).2.2
  have hpd : PicOk (dcP p a) := hp.wd (by omega)
  have b0 := brP_le hp
  have b1 := brP_le hpd
  refine Con.of (lv := [some (.ref (E.2.1 b)), some (.int (nI a)), none, none]) (by decide +kernel) (Nat.le_of_ble_eq_true rfl) rfl ?_
  refine jg_aload_n dX0_isCritical_0 rfl rfl ?_
  refine jg_geti fk_X0_61 (pl_0 hb) rfl dX0_isCritical_1 ?_
  refine jg_top (y := nI (brP p)) (hL.2.2.1) ?_
  refine jg_istore_n dX0_isCritical_4 rfl (by decide) rfl ?_
  refine jg_aload_n dX0_isCritical_5 rfl rfl ?_
  refine jg_getr fk_X0_18 (pl_0 hb) rfl dX0_isCritical_6 ?_
  refine jg_iload_n dX0_isCritical_9 rfl rfl ?_
  refine jg_dup2 dX0_isCritical_10 rfl rfl ?_
  refine jg_ld a (pl_3 hb) (by omega) (rfl) dX0_isCritical_11 ?_
  refine jg_top (y := nI (p 3 a)) ((hL.1.2 a ha).2.2.1) ?_
  refine jg_iconst (v := 1) dX0_isCritical_12 (by decide) ?_
  refine jg_isubE (z := nI (p 3 a - 1)) dX0_isCritical_13 (pk_sub (a := p 3 a) (b := 1) h1) ?_
  refine jg_st a (pl_3 hb) (by omega) (rfl) dX0_isCritical_14 ?_
  refine jg_aload_n dX0_isCritical_15 rfl rfl ?_
  refine jg_callV (c0_lay E hb (s2 u (b + 3) a (nI (p 3 a - 1))) (dcP p a) hpd (hL.1.wd a (p 3 a - 1))) me_X0_lay ml_X0_51 (pl_0 hb) rfl rfl (by decide) (by decide) rfl (Nat.le_of_ble_eq_true rfl) dX0_isCritical_16 (kk_V (fun u_16 h_16 => ?_))
  obtain ⟨hF, hM⟩ := h_16
  refine jg_aload_n dX0_isCritical_19 rfl rfl ?_
  refine jg_geti fk_X0_61 (pl_0 hb) rfl dX0_isCritical_20 ?_
  refine jg_top (y := nI (brP (dcP p a))) (hM.2.2.1) ?_
  refine jg_iload_n dX0_isCritical_23 rfl rfl ?_
  refine jn_icmp_ge (brP (dcP p a)) (brP p) rfl rfl (by omega) (by omega) 31 dX0_isCritical_24 (by decide) (fun h_24 => ?_) (fun h_24 => ?_)
  · have hcr : (0 : Int32) = bI (crF p a) := by simp [bI, crF]; omega
    refine jg_iconst (v := 0) dX0_isCritical_31 (by decide) ?_
    refine jg_istore_n dX0_isCritical_32 rfl (by decide) rfl ?_
    refine jg_aload_n dX0_isCritical_33 rfl rfl ?_
    refine jg_getr fk_X0_18 (pl_0 hb) rfl dX0_isCritical_34 ?_
    refine jg_iload_n dX0_isCritical_37 rfl rfl ?_
    refine jg_dup2 dX0_isCritical_38 rfl rfl ?_
    refine jg_ld a (pl_3 hb) (by omega) (rfl) dX0_isCritical_39 ?_
    refine jg_top (y := nI (p 3 a - 1)) ((hM.1.2 a ha).2.2.1.trans (congrArg nI (upP_self p 3 a (p 3 a - 1)))) ?_
    refine jg_iconst (v := 1) dX0_isCritical_40 (by decide) ?_
    refine jg_iaddE (z := nI (p 3 a)) dX0_isCritical_41 ((nI_1 (p 3 a - 1)).trans (congrArg nI (by omega))) ?_
    refine jg_st a (pl_3 hb) (by omega) (rfl) dX0_isCritical_42 ?_
    refine jg_aload_n dX0_isCritical_43 rfl rfl ?_
    refine jg_callV (c0_lay E hb (s2 u_16 (b + 3) a (nI (p 3 a))) p hp (by have h9 := hM.1.wd a (p 3 a); unfold dcP at h9; rw [upP_back, upP_same] at h9; exact h9)) me_X0_lay ml_X0_51 (pl_0 hb) rfl rfl (by decide) (by decide) rfl (Nat.le_of_ble_eq_true rfl) dX0_isCritical_44 (kk_V (fun u_44 h_44 => ?_))
    obtain ⟨hF2, hM2⟩ := h_44
    refine jg_iload_n dX0_isCritical_47 rfl rfl ?_
    exact jg_iret (rfl) dX0_isCritical_48 ⟨_, rfl, ⟨hcr, ⟨fun k hk hk2 => by
      rw [hF2.1 k hk hk2]
      by_cases e : k = b + 3
      · subst e
        rw [show nI (p 3 a) = u (b + 3) a from (hL.1.2 a ha).2.2.1.symm]
        exact s2_back ((hF.1 (b + 3) (by omega) (by omega)).trans (s2_at u (b + 3) a _))
      · rw [s2_row e, hF.1 k hk hk2, s2_row e], fun j hj hj2 => by rw [hF2.2 j hj hj2, s2_row (by omega), hF.2 j hj hj2, s2_row (by omega)]⟩, hM2⟩⟩
  · have hcr : (1 : Int32) = bI (crF p a) := by simp [bI, crF]; omega
    refine jg_iconst (v := 1) dX0_isCritical_27 (by decide) ?_
    refine jg_goto 32 dX0_isCritical_28 (by decide) ?_
    refine jg_istore_n dX0_isCritical_32 rfl (by decide) rfl ?_
    refine jg_aload_n dX0_isCritical_33 rfl rfl ?_
    refine jg_getr fk_X0_18 (pl_0 hb) rfl dX0_isCritical_34 ?_
    refine jg_iload_n dX0_isCritical_37 rfl rfl ?_
    refine jg_dup2 dX0_isCritical_38 rfl rfl ?_
    refine jg_ld a (pl_3 hb) (by omega) (rfl) dX0_isCritical_39 ?_
    refine jg_top (y := nI (p 3 a - 1)) ((hM.1.2 a ha).2.2.1.trans (congrArg nI (upP_self p 3 a (p 3 a - 1)))) ?_
    refine jg_iconst (v := 1) dX0_isCritical_40 (by decide) ?_
    refine jg_iaddE (z := nI (p 3 a)) dX0_isCritical_41 ((nI_1 (p 3 a - 1)).trans (congrArg nI (by omega))) ?_
    refine jg_st a (pl_3 hb) (by omega) (rfl) dX0_isCritical_42 ?_
    refine jg_aload_n dX0_isCritical_43 rfl rfl ?_
    refine jg_callV (c0_lay E hb (s2 u_16 (b + 3) a (nI (p 3 a))) p hp (by have h9 := hM.1.wd a (p 3 a); unfold dcP at h9; rw [upP_back, upP_same] at h9; exact h9)) me_X0_lay ml_X0_51 (pl_0 hb) rfl rfl (by decide) (by decide) rfl (Nat.le_of_ble_eq_true rfl) dX0_isCritical_44 (kk_V (fun u_44 h_44 => ?_))
    obtain ⟨hF2, hM2⟩ := h_44
    refine jg_iload_n dX0_isCritical_47 rfl rfl ?_
    exact jg_iret (rfl) dX0_isCritical_48 ⟨_, rfl, ⟨hcr, ⟨fun k hk hk2 => by
      rw [hF2.1 k hk hk2]
      by_cases e : k = b + 3
      · subst e
        rw [show nI (p 3 a) = u (b + 3) a from (hL.1.2 a ha).2.2.1.symm]
        exact s2_back ((hF.1 (b + 3) (by omega) (by omega)).trans (s2_at u (b + 3) a _))
      · rw [s2_row e, hF.1 k hk hk2, s2_row e], fun j hj hj2 => by rw [hF2.2 j hj hj2, s2_row (by omega), hF.2 j hj hj2, s2_row (by omega)]⟩, hM2⟩⟩
set_option maxHeartbeats 4000000 in
set_option maxRecDepth 20000 in
theorem c0_criticalOnes (E : gT) {b : Nat} (hb : isPl b) (u : Mm) (p : Pic) (hp : PicOk p) (hL : PlL b u p) (h1 : ∀ a, a < pn p → 1 ≤ p 3 a) : Con E yX0_criticalOnes cX0_criticalOnes 3 (some .int) 4 [.ref (E.2.1 b)] u (kI (fun r u2 => r = nI (setF (crF p) (pn p)) ∧ LF b u u2 ∧ PlL b u2 p)) := by
  have hn := hp.1
  refine Con.of (lv := [some (.ref (E.2.1 b)), none, none]) (by decide +kernel) (Nat.le_of_ble_eq_true rfl) rfl ?_
  refine jg_iconst (v := 0) dX0_criticalOnes_0 (by decide) ?_
  refine jg_istore_n dX0_criticalOnes_1 rfl (by decide) rfl ?_
  refine jg_iconst (v := 0) dX0_criticalOnes_2 (by decide) ?_
  refine jg_istore_n dX0_criticalOnes_3 rfl (by decide) rfl ?_
  have cut_4 : ∀ (m i : Nat) (v : Mm), i ≤ pn p → pn p < i + m → LF b u v → PlL b v p → G E cX0_criticalOnes 3 (yX0_criticalOnes).cls (some .int) 4 (kI (fun r u2 => r = nI (setF (crF p) (pn p)) ∧ LF b u u2 ∧ PlL b u2 p)) 4 [some (.ref (E.2.1 b)), some (.int (nI (setF (crF p) i))), some (.int (nI i))] [] v := by
    intro m
    induction m with
    | zero => intro i v h1 h2; omega
    | succ m ih =>
      intro i v hi hm hF hV
      refine jg_iload_n dX0_criticalOnes_4 rfl rfl ?_
      refine jg_aload_n dX0_criticalOnes_5 rfl rfl ?_
      refine jg_geti fk_X0_41 (pl_0 hb) rfl dX0_criticalOnes_6 ?_
      refine jg_top (y := nI (pn p)) (hV.1.1) ?_
      refine jn_icmp_ge i (pn p) rfl rfl (by omega) (by omega) 32 dX0_criticalOnes_9 (by decide) (fun h_9 => ?_) (fun h_9 => ?_)
      · obtain rfl : i = pn p := by omega
        refine jg_iload_n dX0_criticalOnes_32 rfl rfl ?_
        exact jg_iret (rfl) dX0_criticalOnes_33 ⟨_, rfl, ⟨rfl, hF, hV⟩⟩
      · refine jg_aload_n dX0_criticalOnes_12 rfl rfl ?_
        refine jg_iload_n dX0_criticalOnes_13 rfl rfl ?_
        refine jg_callV (c0_isCritical E hb v p hp hV i h_9 (h1 i h_9)) me_X0_isCritical ml_X0_109 (pl_0 hb) rfl rfl (by decide) (by decide) rfl (Nat.le_of_ble_eq_true rfl) dX0_criticalOnes_14 (kk_I (fun r_14 u_14 h_14 => ?_))
        obtain ⟨rfl, hF2, hV2⟩ := h_14
        refine jb_if_eq 26 dX0_criticalOnes_17 (by decide) (fun h_17 => ?_) (fun h_17 => ?_)
        · have eS : setF (crF p) (i + 1) = setF (crF p) i := setF_no (c := crF p) h_17
          refine jg_iinc (v := nI (i + 1)) dX0_criticalOnes_26 rfl (nI_1 i) (by decide) rfl ?_
          refine jg_goto 4 dX0_criticalOnes_29 (by decide) ?_
          have ih2 := ih (i + 1) _ (by omega) (by omega) (hF.tr hF2) hV2
          first | exact ih2 | (rw [eS] at ih2; exact ih2)
        · have eS : True := trivial
          refine jg_iload_n dX0_criticalOnes_20 rfl rfl ?_
          refine jg_iconst (v := 1) dX0_criticalOnes_21 (by decide) ?_
          refine jg_iload_n dX0_criticalOnes_22 rfl rfl ?_
          refine jg_ishl dX0_criticalOnes_23 ?_
          refine jg_iorE (z := nI (setF (crF p) (i + 1))) dX0_criticalOnes_24 (orC (crF p) (by omega) h_17) ?_
          refine jg_istore_n dX0_criticalOnes_25 rfl (by decide) rfl ?_
          refine jg_iinc (v := nI (i + 1)) dX0_criticalOnes_26 rfl (nI_1 i) (by decide) rfl ?_
          refine jg_goto 4 dX0_criticalOnes_29 (by decide) ?_
          have ih2 := ih (i + 1) _ (by omega) (by omega) (hF.tr hF2) hV2
          first | exact ih2 | (rw [eS] at ih2; exact ih2)
  exact cut_4 (pn p + 1) 0 u (Nat.zero_le _) (by omega) LF.rf hL
/-- the width that a next one must pass -/
def msF (c : Nat → Bool) (w : Nat → Nat) (i : Nat) : Nat := match wsO c w i with
  | none => 1
  | some a => w a
theorem msF_b (c : Nat → Bool) (w : Nat → Nat) (i : Nat) : wsb w i (wsO c w i) = true ∧ 1 < w i ↔ msF c w i < w i := by
  unfold msF wsb
  cases h : wsO c w i with
  | none => simp
  | some a =>
    have := (wsO_lt h).2.1
    simp
    omega
set_option maxHeartbeats 4000000 in
set_option maxRecDepth 20000 in
theorem c0_widestOf (E : gT) {b : Nat} (hb : isPl b) (u : Mm) (p : Pic) (hp : PicOk p) (hL : PlL b u p) (S : Int32) (c : Nat → Bool) (hS : ∀ a, a < pn p → (S >>> (nI a &&& 31)) &&& 1 = bI (c a)) : Con E yX0_widestOf cX0_widestOf 5 (some .int) 0 [.ref (E.2.1 b), .int S] u (kI (fun r u2 => r = oI (-1) (wsO c (p 3) (pn p)) ∧ u = u2)) := by
  have hn := hp.1
  refine Con.of (lv := [some (.ref (E.2.1 b)), some (.int S), none, none, none]) (by decide +kernel) (Nat.le_of_ble_eq_true rfl) rfl ?_
  refine jg_iconst (v := -1) dX0_widestOf_0 (by decide) ?_
  refine jg_istore_n dX0_widestOf_1 rfl (by decide) rfl ?_
  refine jg_iconst (v := 1) dX0_widestOf_2 (by decide) ?_
  refine jg_istore_n dX0_widestOf_3 rfl (by decide) rfl ?_
  refine jg_iconst (v := 0) dX0_widestOf_4 (by decide) ?_
  refine jg_istore dX0_widestOf_5 (by decide) rfl ?_
  have cut_7 : ∀ (m i : Nat), i ≤ pn p → pn p < i + m → G E cX0_widestOf 5 (yX0_widestOf).cls (some .int) 0 (kI (fun r u2 => r = oI (-1) (wsO c (p 3) (pn p)) ∧ u = u2)) 7 [some (.ref (E.2.1 b)), some (.int S), some (.int (oI (-1) (wsO c (p 3) i))), some (.int (nI (msF c (p 3) i))), some (.int (nI i))] [] u := by
    intro m
    induction m with
    | zero => intro i h1 h2; omega
    | succ m ih =>
      intro i hi hm
      refine jg_iload dX0_widestOf_7 rfl ?_
      refine jg_aload_n dX0_widestOf_9 rfl rfl ?_
      refine jg_geti fk_X0_41 (pl_0 hb) rfl dX0_widestOf_10 ?_
      refine jg_top (y := nI (pn p)) (hL.1.1) ?_
      refine jn_icmp_ge i (pn p) rfl rfl (by omega) (by omega) 53 dX0_widestOf_13 (by decide) (fun h_13 => ?_) (fun h_13 => ?_)
      · obtain rfl : i = pn p := by omega
        refine jg_iload_n dX0_widestOf_53 rfl rfl ?_
        exact jg_iret (rfl) dX0_widestOf_54 ⟨_, rfl, ⟨rfl, rfl⟩⟩
      · have hw := (hp.2.1 i h_13).2.2
        have hm9 : msF c (p 3) i ≤ 9 := by unfold msF; split; omega; rename_i a9 h9; have := (hp.2.1 a9 (by have := (wsO_lt h9).1; omega)).2.2; omega
        refine jg_iload_n dX0_widestOf_16 rfl rfl ?_
        refine jg_iload dX0_widestOf_17 rfl ?_
        refine jg_ishr dX0_widestOf_19 ?_
        refine jg_iconst (v := 1) dX0_widestOf_20 (by decide) ?_
        refine jg_iand dX0_widestOf_21 ?_
        refine jg_top (y := bI (c i)) (hS i h_13) ?_
        refine jb_if_eq 47 dX0_widestOf_22 (by decide) (fun h_22 => ?_) (fun h_22 => ?_)
        · have eS : wsO c (p 3) (i + 1) = wsO c (p 3) i := wsO_no (fun q => by rw [h_22] at q; exact absurd q.1 (by decide))
          have eM : msF c (p 3) (i + 1) = msF c (p 3) i := by unfold msF; rw [eS]
          refine jg_iinc (v := nI (i + 1)) dX0_widestOf_47 rfl (nI_1 i) (by decide) rfl ?_
          refine jg_goto 7 dX0_widestOf_50 (by decide) ?_
          have ih2 := ih (i + 1) (by omega) (by omega)
          rw [eS, eM] at ih2
          exact ih2
        · refine jg_aload_n dX0_widestOf_25 rfl rfl ?_
          refine jg_getr fk_X0_18 (pl_0 hb) rfl dX0_widestOf_26 ?_
          refine jg_iload dX0_widestOf_29 rfl ?_
          refine jg_ld i (pl_3 hb) (by omega) (rfl) dX0_widestOf_31 ?_
          refine jg_top (y := nI (p 3 i)) ((hL.1.2 i h_13).2.2.1) ?_
          refine jg_iload_n dX0_widestOf_32 rfl rfl ?_
          refine jn_icmp_le (p 3 i) (msF c (p 3) i) rfl rfl (by omega) (by omega) 47 dX0_widestOf_33 (by decide) (fun h_33 => ?_) (fun h_33 => ?_)
          · have eS : wsO c (p 3) (i + 1) = wsO c (p 3) i := wsO_no (fun q => by have := (msF_b c (p 3) i).mp ⟨q.2.2, q.2.1⟩; omega)
            have eM : msF c (p 3) (i + 1) = msF c (p 3) i := by unfold msF; rw [eS]
            refine jg_iinc (v := nI (i + 1)) dX0_widestOf_47 rfl (nI_1 i) (by decide) rfl ?_
            refine jg_goto 7 dX0_widestOf_50 (by decide) ?_
            have ih2 := ih (i + 1) (by omega) (by omega)
            rw [eS, eM] at ih2
            exact ih2
          · have hq := (msF_b c (p 3) i).mpr h_33
            have eS : wsO c (p 3) (i + 1) = some i := wsO_yes h_22 hq.2 hq.1
            have eM : msF c (p 3) (i + 1) = p 3 i := by unfold msF; rw [eS]
            refine jg_iload dX0_widestOf_36 rfl ?_
            refine jg_istore_n dX0_widestOf_38 rfl (by decide) rfl ?_
            refine jg_aload_n dX0_widestOf_39 rfl rfl ?_
            refine jg_getr fk_X0_18 (pl_0 hb) rfl dX0_widestOf_40 ?_
            refine jg_iload dX0_widestOf_43 rfl ?_
            refine jg_ld i (pl_3 hb) (by omega) (rfl) dX0_widestOf_45 ?_
            refine jg_top (y := nI (p 3 i)) ((hL.1.2 i h_13).2.2.1) ?_
            refine jg_istore_n dX0_widestOf_46 rfl (by decide) rfl ?_
            refine jg_iinc (v := nI (i + 1)) dX0_widestOf_47 rfl (nI_1 i) (by decide) rfl ?_
            refine jg_goto 7 dX0_widestOf_50 (by decide) ?_
            have ih2 := ih (i + 1) (by omega) (by omega)
            rw [eS, eM] at ih2
            exact ih2
  exact cut_7 (pn p + 1) 0 (Nat.zero_le _) (by omega)
set_option maxHeartbeats 4000000 in
set_option maxRecDepth 20000 in
theorem c0_nextToNarrow (E : gT) {b : Nat} (hb : isPl b) (u : Mm) (p : Pic) (hp : PicOk p) (hL : PlL b u p) (h1 : ∀ a, a < pn p → 1 ≤ p 3 a) : Con E yX0_nextToNarrow cX0_nextToNarrow 2 (some .int) 5 [.ref (E.2.1 b)] u (kI (fun r u2 => r = oI (-1) (nxO p) ∧ LF b u u2 ∧ PlL b u2 p)) := by
  have hn := hp.1
  refine Con.of (lv := [some (.ref (E.2.1 b)), none]) (by decide +kernel) (Nat.le_of_ble_eq_true rfl) rfl ?_
  refine jg_aload_n dX0_nextToNarrow_0 rfl rfl ?_
  refine jg_aload_n dX0_nextToNarrow_1 rfl rfl ?_
  refine jg_callV (c0_criticalOnes E hb u p hp hL h1) me_X0_criticalOnes ml_X0_113 (pl_0 hb) rfl rfl (by decide) (by decide) rfl (Nat.le_of_ble_eq_true rfl) dX0_nextToNarrow_2 (kk_I (fun r_2 u_2 h_2 => ?_))
  obtain ⟨rfl, hF, hV⟩ := h_2
  refine jg_callV (c0_widestOf E hb u_2 p hp hV _ (crF p) (fun a ha => setF_at (crF p) hn ha)) me_X0_widestOf ml_X0_117 (pl_0 hb) rfl rfl (by decide) (by decide) rfl (Nat.le_of_ble_eq_true rfl) dX0_nextToNarrow_5 (kk_I (fun r_5 u_5 h_5 => ?_))
  obtain ⟨rfl, rfl⟩ := h_5
  refine jg_istore_n dX0_nextToNarrow_8 rfl (by decide) rfl ?_
  refine jg_iload_n dX0_nextToNarrow_9 rfl rfl ?_
  refine jg_iconst (v := -1) dX0_nextToNarrow_10 (by decide) ?_
  refine jg_icmp_ne 22 dX0_nextToNarrow_11 (by decide) (fun h_11 => ?_) (fun h_11 => ?_)
  · have e9 : nxO p = wsO (crF p) (p 3) (pn p) := by
      unfold nxO
      cases h9 : wsO (crF p) (p 3) (pn p) with
      | none => rw [h9] at h_11; exact absurd rfl h_11
      | some a => rfl
    refine jg_iload_n dX0_nextToNarrow_22 rfl rfl ?_
    exact jg_iret (rfl) dX0_nextToNarrow_23 ⟨_, rfl, ⟨by rw [e9], hF, hV⟩⟩
  · have e9 : nxO p = wsO (fun _ => true) (p 3) (pn p) := by
      unfold nxO
      cases h9 : wsO (crF p) (p 3) (pn p) with
      | none => rfl
      | some a =>
        rw [h9] at h_11
        have h8 := (wsO_lt h9).1
        exact absurd h_11 (fun z => by have := congrArg Int32.toInt z; unfold oI at this; rw [nI_toInt (by omega)] at this; have h7 : ((-1 : Int32)).toInt = -1 := by decide
                                       omega)
    refine jg_aload_n dX0_nextToNarrow_14 rfl rfl ?_
    refine jg_iconst (v := -1) dX0_nextToNarrow_15 (by decide) ?_
    refine jg_callV (c0_widestOf E hb u_2 p hp hV (-1) (fun _ => true) (fun a ha => bitAll a (by omega))) me_X0_widestOf ml_X0_117 (pl_0 hb) rfl rfl (by decide) (by decide) rfl (Nat.le_of_ble_eq_true rfl) dX0_nextToNarrow_16 (kk_I (fun r_16 u_16 h_16 => ?_))
    obtain ⟨rfl, rfl⟩ := h_16
    refine jg_goto 23 dX0_nextToNarrow_19 (by decide) ?_
    exact jg_iret (rfl) dX0_nextToNarrow_23 ⟨_, rfl, ⟨by rw [e9], hF, hV⟩⟩
set_option maxHeartbeats 4000000 in
set_option maxRecDepth 20000 in
theorem c0_becomeLike (E : gT) {b c : Nat} (hb : isPl b) (hc : isPl c) (hbc : b ≠ c) (u : Mm) (p : Pic) (hp : PicOk p) (hP : PlB c u p) : Con E yX0_becomeLike cX0_becomeLike 2 none 3 [.ref (E.2.1 b), .ref (E.2.1 c)] u (kV (fun u2 => PF b u u2 ∧ PlL b u2 p ∧ ∀ i, i < 6 → u2 (b + 4) i = u (c + 4) i)) := by
  have hn := hp.1
  have hap := pl_apart hb hc hbc
  refine Con.of (lv := [some (.ref (E.2.1 b)), some (.ref (E.2.1 c))]) (by decide +kernel) (Nat.le_of_ble_eq_true rfl) rfl ?_
  refine jg_aload_n dX0_becomeLike_0 rfl rfl ?_
  refine jg_aload_n dX0_becomeLike_1 rfl rfl ?_
  refine jg_geti fk_X0_41 (pl_0 hc) rfl dX0_becomeLike_2 ?_
  refine jg_puti fp_X0_41 (pl_0 hb) rfl dX0_becomeLike_5 ?_
  refine jg_aload_n dX0_becomeLike_8 rfl rfl ?_
  refine jg_getr fk_X0_9 (pl_0 hc) rfl dX0_becomeLike_9 ?_
  refine jg_iconst (v := 0) dX0_becomeLike_12 (by decide) ?_
  refine jg_aload_n dX0_becomeLike_13 rfl rfl ?_
  refine jg_getr fk_X0_9 (pl_0 hb) rfl dX0_becomeLike_14 ?_
  refine jg_iconst (v := 0) dX0_becomeLike_17 (by decide) ?_
  refine jg_bipush (v := 6) dX0_becomeLike_18 (by decide) ?_
  refine jg_copy 0 0 6 cp_X0_45 (pl_1 hc) (pl_1 hb) (rfl) (rfl) (rfl) (by omega) (by omega) (by decide) (Nat.le_of_ble_eq_true rfl) dX0_becomeLike_20 ?_
  refine jg_aload_n dX0_becomeLike_23 rfl rfl ?_
  refine jg_getr fk_X0_15 (pl_0 hc) rfl dX0_becomeLike_24 ?_
  refine jg_iconst (v := 0) dX0_becomeLike_27 (by decide) ?_
  refine jg_aload_n dX0_becomeLike_28 rfl rfl ?_
  refine jg_getr fk_X0_15 (pl_0 hb) rfl dX0_becomeLike_29 ?_
  refine jg_iconst (v := 0) dX0_becomeLike_32 (by decide) ?_
  refine jg_bipush (v := 6) dX0_becomeLike_33 (by decide) ?_
  refine jg_copy 0 0 6 cp_X0_45 (pl_2 hc) (pl_2 hb) (rfl) (rfl) (rfl) (by omega) (by omega) (by decide) (Nat.le_of_ble_eq_true rfl) dX0_becomeLike_35 ?_
  refine jg_aload_n dX0_becomeLike_38 rfl rfl ?_
  refine jg_getr fk_X0_18 (pl_0 hc) rfl dX0_becomeLike_39 ?_
  refine jg_iconst (v := 0) dX0_becomeLike_42 (by decide) ?_
  refine jg_aload_n dX0_becomeLike_43 rfl rfl ?_
  refine jg_getr fk_X0_18 (pl_0 hb) rfl dX0_becomeLike_44 ?_
  refine jg_iconst (v := 0) dX0_becomeLike_47 (by decide) ?_
  refine jg_bipush (v := 6) dX0_becomeLike_48 (by decide) ?_
  refine jg_copy 0 0 6 cp_X0_45 (pl_3 hc) (pl_3 hb) (rfl) (rfl) (rfl) (by omega) (by omega) (by decide) (Nat.le_of_ble_eq_true rfl) dX0_becomeLike_50 ?_
  refine jg_aload_n dX0_becomeLike_53 rfl rfl ?_
  refine jg_getr fk_X0_21 (pl_0 hc) rfl dX0_becomeLike_54 ?_
  refine jg_iconst (v := 0) dX0_becomeLike_57 (by decide) ?_
  refine jg_aload_n dX0_becomeLike_58 rfl rfl ?_
  refine jg_getr fk_X0_21 (pl_0 hb) rfl dX0_becomeLike_59 ?_
  refine jg_iconst (v := 0) dX0_becomeLike_62 (by decide) ?_
  refine jg_bipush (v := 6) dX0_becomeLike_63 (by decide) ?_
  refine jg_copy 0 0 6 cp_X0_45 (pl_4 hc) (pl_4 hb) (rfl) (rfl) (rfl) (by omega) (by omega) (by decide) (Nat.le_of_ble_eq_true rfl) dX0_becomeLike_65 ?_
  refine jg_aload_n dX0_becomeLike_68 rfl rfl ?_
  refine jg_getr fk_X0_26 (pl_0 hc) rfl dX0_becomeLike_69 ?_
  refine jg_iconst (v := 0) dX0_becomeLike_72 (by decide) ?_
  refine jg_aald 0 (pl_5 hc) rfl (Nat.le_of_ble_eq_true rfl) rfl dX0_becomeLike_73 ?_
  refine jg_iconst (v := 0) dX0_becomeLike_74 (by decide) ?_
  refine jg_aload_n dX0_becomeLike_75 rfl rfl ?_
  refine jg_getr fk_X0_26 (pl_0 hb) rfl dX0_becomeLike_76 ?_
  refine jg_iconst (v := 0) dX0_becomeLike_79 (by decide) ?_
  refine jg_aald 0 (pl_5 hb) rfl (Nat.le_of_ble_eq_true rfl) rfl dX0_becomeLike_80 ?_
  refine jg_iconst (v := 0) dX0_becomeLike_81 (by decide) ?_
  refine jg_bipush (v := 6) dX0_becomeLike_82 (by decide) ?_
  refine jg_copy 0 0 6 cp_X0_45 (pl_6 hc) (pl_6 hb) (rfl) (rfl) (rfl) (by omega) (by omega) (by decide) (Nat.le_of_ble_eq_true rfl) dX0_becomeLike_84 ?_
  refine jg_aload_n dX0_becomeLike_87 rfl rfl ?_
  refine jg_getr fk_X0_26 (pl_0 hc) rfl dX0_becomeLike_88 ?_
  refine jg_iconst (v := 1) dX0_becomeLike_91 (by decide) ?_
  refine jg_aald 1 (pl_5 hc) rfl (Nat.le_of_ble_eq_true rfl) rfl dX0_becomeLike_92 ?_
  refine jg_iconst (v := 0) dX0_becomeLike_93 (by decide) ?_
  refine jg_aload_n dX0_becomeLike_94 rfl rfl ?_
  refine jg_getr fk_X0_26 (pl_0 hb) rfl dX0_becomeLike_95 ?_
  refine jg_iconst (v := 1) dX0_becomeLike_98 (by decide) ?_
  refine jg_aald 1 (pl_5 hb) rfl (Nat.le_of_ble_eq_true rfl) rfl dX0_becomeLike_99 ?_
  refine jg_iconst (v := 0) dX0_becomeLike_100 (by decide) ?_
  refine jg_bipush (v := 6) dX0_becomeLike_101 (by decide) ?_
  refine jg_copy 0 0 6 cp_X0_45 (pl_7 hc) (pl_7 hb) (rfl) (rfl) (rfl) (by omega) (by omega) (by decide) (Nat.le_of_ble_eq_true rfl) dX0_becomeLike_103 ?_
  refine jg_mem (u' := cpP u c b) rfl ?_
  refine jg_aload_n dX0_becomeLike_106 rfl rfl ?_
  refine jg_callV (c0_lay E hb (cpP u c b) p hp (cpP_pl hp hap hP)) me_X0_lay ml_X0_51 (pl_0 hb) rfl rfl (by decide) (by decide) rfl (Nat.le_of_ble_eq_true rfl) dX0_becomeLike_107 (kk_V (fun u_107 h_107 => ?_))
  obtain ⟨hF, hL⟩ := h_107
  exact jg_vret dX0_becomeLike_110 ⟨rfl, ⟨fun k hk => by rw [hF.1 k (by omega) (by omega), cpP_out (by omega)], hL, fun i hi => by rw [hF.1 (b + 4) (by omega) (by omega), cpP_4 hap hi]⟩⟩
set_option maxHeartbeats 4000000 in
set_option maxRecDepth 20000 in
theorem c0_swap (E : gT) {k n : Nat} (hs : sTb[k]? = some (.inr (.inl n))) (u : Mm) (i j : Nat) (hi : i < n) (hj : j < n) : Con E yX0_swap cX0_swap 4 none 0 [.ref (E.2.1 k), .int (nI i), .int (nI j)] u (kV (fun u2 => u2 = s2 (s2 u k i (u k j)) k j (u k i))) := by
  refine Con.of (lv := [some (.ref (E.2.1 k)), some (.int (nI i)), some (.int (nI j)), none]) (by decide +kernel) (Nat.le_of_ble_eq_true rfl) rfl ?_
  refine jg_aload_n dX0_swap_0 rfl rfl ?_
  refine jg_iload_n dX0_swap_1 rfl rfl ?_
  refine jg_ld i hs (by omega) (rfl) dX0_swap_2 ?_
  refine jg_istore_n dX0_swap_3 rfl (by decide) rfl ?_
  refine jg_aload_n dX0_swap_4 rfl rfl ?_
  refine jg_iload_n dX0_swap_5 rfl rfl ?_
  refine jg_aload_n dX0_swap_6 rfl rfl ?_
  refine jg_iload_n dX0_swap_7 rfl rfl ?_
  refine jg_ld j hs (by omega) (rfl) dX0_swap_8 ?_
  refine jg_st i hs (by omega) (rfl) dX0_swap_9 ?_
  refine jg_aload_n dX0_swap_10 rfl rfl ?_
  refine jg_iload_n dX0_swap_11 rfl rfl ?_
  refine jg_iload_n dX0_swap_12 rfl rfl ?_
  refine jg_st j hs (by omega) (rfl) dX0_swap_13 ?_
  exact jg_vret dX0_swap_14 ⟨rfl, rfl⟩
set_option maxHeartbeats 4000000 in
set_option maxRecDepth 20000 in
theorem c0_turnPlaces (E : gT) {b : Nat} (hb : isPl b) (u : Mm) (w k : Nat) (hw : w < 2) (hk : k + 1 < 6) : Con E yX0_turnPlaces cX0_turnPlaces 3 none 1 [.ref (E.2.1 b), .int (nI w), .int (nI k)] u (kV (fun u2 => u2 = s2 (s2 u (b + 6 + w) k (u (b + 6 + w) (k + 1))) (b + 6 + w) (k + 1) (u (b + 6 + w) k))) := by
  refine Con.of (lv := [some (.ref (E.2.1 b)), some (.int (nI w)), some (.int (nI k))]) (by decide +kernel) (Nat.le_of_ble_eq_true rfl) rfl ?_
  refine jg_aload_n dX0_turnPlaces_0 rfl rfl ?_
  refine jg_getr fk_X0_26 (pl_0 hb) rfl dX0_turnPlaces_1 ?_
  refine jg_iload_n dX0_turnPlaces_4 rfl rfl ?_
  refine jg_aald w (pl_5 hb) (at_w hw) (Nat.le_of_ble_eq_true rfl) (rfl) dX0_turnPlaces_5 ?_
  refine jg_iload_n dX0_turnPlaces_6 rfl rfl ?_
  refine jg_iload_n dX0_turnPlaces_7 rfl rfl ?_
  refine jg_iconst (v := 1) dX0_turnPlaces_8 (by decide) ?_
  refine jg_iaddE (z := nI (k + 1)) dX0_turnPlaces_9 (nI_add k 1) ?_
  refine jg_callS (c0_swap E (pl_w hb hw) u k (k + 1) (by omega) hk) me_X0_swap ml_X0_54 rfl (by decide) (by decide) rfl (Nat.le_of_ble_eq_true rfl) dX0_turnPlaces_10 (kk_V (fun u_10 h_10 => ?_))
  obtain rfl := h_10
  exact jg_vret dX0_turnPlaces_13 ⟨rfl, rfl⟩
set_option maxHeartbeats 4000000 in
set_option maxRecDepth 20000 in
theorem c0_startOrders (E : gT) {b : Nat} (hb : isPl b) (u : Mm) (n : Nat) (hn : n ≤ 6) (hu : u b 0 = nI n) : Con E yX0_startOrders cX0_startOrders 2 none 0 [.ref (E.2.1 b)] u (kV (fun u2 => (∀ k, k ≠ b + 7 → u2 k = u k) ∧ ∀ i, i < n → u2 (b + 7) i = nI i)) := by
  refine Con.of (lv := [some (.ref (E.2.1 b)), none]) (by decide +kernel) (Nat.le_of_ble_eq_true rfl) rfl ?_
  refine jg_iconst (v := 0) dX0_startOrders_0 (by decide) ?_
  refine jg_istore_n dX0_startOrders_1 rfl (by decide) rfl ?_
  have cut_2 : ∀ (m i : Nat) (v : Mm), i ≤ n → n < i + m → (∀ k, k ≠ b + 7 → v k = u k) → (∀ q, q < i → v (b + 7) q = nI q) → G E cX0_startOrders 2 (yX0_startOrders).cls none 0 (kV (fun u2 => (∀ k, k ≠ b + 7 → u2 k = u k) ∧ ∀ i, i < n → u2 (b + 7) i = nI i)) 2 [some (.ref (E.2.1 b)), some (.int (nI i))] [] v := by
    intro m
    induction m with
    | zero => intro i v h1 h2; omega
    | succ m ih =>
      intro i v hi hm hfr hq
      refine jg_iload_n dX0_startOrders_2 rfl rfl ?_
      refine jg_aload_n dX0_startOrders_3 rfl rfl ?_
      refine jg_geti fk_X0_41 (pl_0 hb) rfl dX0_startOrders_4 ?_
      refine jg_top (y := nI n) ((congrFun (hfr b (by omega)) 0).trans hu) ?_
      refine jn_icmp_ge i n rfl rfl (by omega) (by omega) 25 dX0_startOrders_7 (by decide) (fun h_7 => ?_) (fun h_7 => ?_)
      · exact jg_vret dX0_startOrders_25 ⟨rfl, ⟨hfr, fun q h => hq q (by omega)⟩⟩
      · refine jg_aload_n dX0_startOrders_10 rfl rfl ?_
        refine jg_getr fk_X0_26 (pl_0 hb) rfl dX0_startOrders_11 ?_
        refine jg_iconst (v := 1) dX0_startOrders_14 (by decide) ?_
        refine jg_aald 1 (pl_5 hb) rfl (Nat.le_of_ble_eq_true rfl) rfl dX0_startOrders_15 ?_
        refine jg_iload_n dX0_startOrders_16 rfl rfl ?_
        refine jg_iload_n dX0_startOrders_17 rfl rfl ?_
        refine jg_st i (pl_7 hb) (by omega) (rfl) dX0_startOrders_18 ?_
        refine jg_iinc (v := nI (i + 1)) dX0_startOrders_19 rfl (nI_1 i) (by decide) rfl ?_
        refine jg_goto 2 dX0_startOrders_22 (by decide) ?_
        exact ih (i + 1) _ (by omega) (by omega) (fun k h => by rw [s2_row h]; exact hfr k h) (fun q h => by by_cases e : q = i; (subst e; exact s2_self _ _ _ _); (rw [s2_ne e]; exact hq q (by omega)))
  exact cut_2 (n + 1) 0 u (Nat.zero_le _) (by omega) (fun _ _ => rfl) (fun q h => by omega)
end
section
/-! the next order -/
def swF (o : Nat → Nat) (i j : Nat) : Nat → Nat := fun x => if x = j then o i else if x = i then o j else o x
def kf (o : Nat → Nat) : Nat → Option Nat
  | 0 => none
  | k + 1 => if o (k + 1) < o k then kf o k else some k
def jf (o : Nat → Nat) (k : Nat) : Nat → Nat
  | 0 => 0
  | j + 1 => if k + 1 < j + 1 ∧ o (j + 1) < o k then jf o k j else j + 1
def rvF : Nat → (Nat → Nat) → Nat → Nat → Nat → Nat
  | 0, o, _, _ => o
  | m + 1, o, f, l => if f < l then rvF m (swF o f l) (f + 1) (l - 1) else o
def nextP (n : Nat) (o : Nat → Nat) : Nat → Nat := match kf o (n - 1) with
  | none => o
  | some k => rvF n (swF o k (jf o k (n - 1))) (k + 1) (n - 1)
theorem swF_lt {o : Nat → Nat} {i j n x B : Nat} (h : ∀ y, y < n → o y < B) (hi : i < n) (hj : j < n) (hx : x < n) : swF o i j x < B := by
  unfold swF
  split
  · exact h i hi
  · split
    · exact h j hj
    · exact h x hx
theorem isPm_sw {o : Nat → Nat} {n i j : Nat} (h : isPm o n) (hi : i < n) (hj : j < n) : isPm (swF o i j) n := by
  obtain ⟨h1, h2, h3⟩ := h
  refine ⟨fun x hx => swF_lt h1 hi hj hx, fun a b ha hb e => ?_, fun a ha => ?_⟩
  · unfold swF at e
    split at e <;> split at e <;> (try split at e) <;> (try split at e) <;> rename_i hh <;> first | omega | (have z := h2 _ _ (by assumption) (by assumption) e; omega)
  · obtain ⟨k, hk, rfl⟩ := h3 a ha
    by_cases e1 : k = i
    · refine ⟨j, hj, ?_⟩; unfold swF; rw [if_pos rfl, e1]
    · by_cases e2 : k = j
      · refine ⟨i, hi, ?_⟩; unfold swF
        by_cases e3 : i = j
        · omega
        · rw [if_neg e3, if_pos rfl, e2]
      · refine ⟨k, hk, ?_⟩; unfold swF; rw [if_neg e2, if_neg e1]
theorem kf_lt {o : Nat → Nat} {t k : Nat} (h : kf o t = some k) : k < t := by
  induction t with
  | zero => cases h
  | succ t ih =>
    unfold kf at h
    split at h
    · have := ih h; omega
    · cases h; omega
theorem kf_up {o : Nat → Nat} {t k : Nat} (h : kf o t = some k) : ¬ o (k + 1) < o k := by
  induction t with
  | zero => cases h
  | succ t ih =>
    unfold kf at h
    split at h
    · exact ih h
    · cases h; assumption
theorem jf_stop {o : Nat → Nat} {k j : Nat} (h0 : 1 ≤ j) (h : j ≤ k + 1 ∨ o k ≤ o j) : jf o k j = j := by
  obtain ⟨i, rfl⟩ : ∃ i, j = i + 1 := ⟨j - 1, by omega⟩
  show (if _ then _ else _) = _
  rw [if_neg (by omega)]
theorem jf_go {o : Nat → Nat} {k j : Nat} (h1 : k + 1 < j) (h2 : o j < o k) : jf o k j = jf o k (j - 1) := by
  obtain ⟨i, rfl⟩ : ∃ i, j = i + 1 := ⟨j - 1, by omega⟩
  show (if _ then _ else _) = _
  rw [if_pos ⟨h1, h2⟩]
  rfl
theorem jf_in {o : Nat → Nat} {k : Nat} : ∀ j, k + 1 ≤ j → k + 1 ≤ jf o k j ∧ jf o k j ≤ j := by
  intro j
  induction j with
  | zero => intro h; omega
  | succ j ih =>
    intro h
    by_cases c : k + 1 < j + 1 ∧ o (j + 1) < o k
    · rw [jf_go c.1 c.2]
      have := ih (by omega)
      rw [Nat.add_sub_cancel]
      omega
    · rw [jf_stop (by omega) (by omega)]
      omega
theorem rv_stop {m : Nat} {o : Nat → Nat} {f l : Nat} (h : ¬ f < l) : rvF m o f l = o := by
  cases m with
  | zero => rfl
  | succ m => show (if _ then _ else _) = _; rw [if_neg h]
theorem rv_go {m : Nat} {o : Nat → Nat} {f l : Nat} (h : f < l) : rvF (m + 1) o f l = rvF m (swF o f l) (f + 1) (l - 1) := by
  show (if _ then _ else _) = _
  rw [if_pos h]
theorem isPm_rv {n : Nat} : ∀ m (o : Nat → Nat) f l, isPm o n → l < n → isPm (rvF m o f l) n := by
  intro m
  induction m with
  | zero => intro o f l h _; exact h
  | succ m ih =>
    intro o f l h hl
    by_cases c : f < l
    · rw [rv_go c]
      exact ih _ _ _ (isPm_sw h (by omega) hl) (by omega)
    · rw [rv_stop c]; exact h
theorem isPm_next {n : Nat} {o : Nat → Nat} (h : isPm o n) : isPm (nextP n o) n := by
  unfold nextP
  cases e : kf o (n - 1) with
  | none => exact h
  | some k =>
    have h1 := kf_lt e
    have h2 := jf_in (o := o) (k := k) (n - 1) (by omega)
    exact isPm_rv _ _ _ _ (isPm_sw h (by omega) (by omega)) (by omega)
/-- a number less 1 -/
def dI (t : Nat) : Int32 := nI t - 1
theorem dI_0 : dI 0 < 0 := by decide
theorem dI_s (s : Nat) : dI (s + 1) = nI s := nI_pred s
theorem dI_m (s : Nat) : nI s + Int32.ofInt (-1) = dI s := by unfold dI; rw [Int32.sub_eq_add_neg]; rfl
theorem dI_2 {n : Nat} (h : 1 ≤ n) : nI n - 2 = dI (n - 1) := by
  obtain ⟨k, rfl⟩ : ∃ k, n = k + 1 := ⟨n - 1, by omega⟩
  rw [Nat.add_sub_cancel]
  unfold dI
  rw [nI_succ, show (2 : Int32) = 1 + 1 from rfl, Int32.sub_eq_add_neg, Int32.sub_eq_add_neg, Int32.neg_add, Int32.add_assoc]
  congr 1
/-- two places of a row changed about -/
theorem sw_row {u : Mm} {k i j n : Nat} {o : Nat → Nat} (h : ∀ x, x < n → u k x = nI (o x)) (hi : i < n) (hj : j < n) : ∀ x, x < n → s2 (s2 u k i (u k j)) k j (u k i) k x = nI (swF o i j x) := by
  intro x hx
  unfold swF
  by_cases e1 : x = j
  · subst e1; rw [s2_self, if_pos rfl]; exact h i hi
  · rw [s2_ne e1, if_neg e1]
    by_cases e2 : x = i
    · subst e2; rw [s2_self, if_pos rfl]; exact h j hj
    · rw [s2_ne e2, if_neg e2]; exact h x hx
end
section
set_option maxHeartbeats 4000000 in
set_option maxRecDepth 20000 in
theorem c0_stepOrder (E : gT) {b : Nat} (hb : isPl b) (u : Mm) (n : Nat) (o : Nat → Nat) (h1 : 1 ≤ n) (hn : n ≤ 6) (hu : u b 0 = nI n) (ho : ∀ x, x < n → u (b + 7) x = nI (o x)) (hB : ∀ x, x < n → o x < 6) : Con E yX0_stepOrder cX0_stepOrder 6 none 1 [.ref (E.2.1 b)] u (kV (fun u2 => (∀ k, k ≠ b + 7 → u2 k = u k) ∧ ∀ x, x < n → u2 (b + 7) x = nI (nextP n o x))) := by
  refine Con.of (lv := [some (.ref (E.2.1 b)), none, none, none, none, none]) (by decide +kernel) (Nat.le_of_ble_eq_true rfl) rfl ?_
  refine jg_aload_n dX0_stepOrder_0 rfl rfl ?_
  refine jg_getr fk_X0_26 (pl_0 hb) rfl dX0_stepOrder_1 ?_
  refine jg_iconst (v := 1) dX0_stepOrder_4 (by decide) ?_
  refine jg_aald 1 (pl_5 hb) rfl (Nat.le_of_ble_eq_true rfl) rfl dX0_stepOrder_5 ?_
  refine jg_astore_n dX0_stepOrder_6 rfl (by decide) rfl ?_
  refine jg_aload_n dX0_stepOrder_7 rfl rfl ?_
  refine jg_geti fk_X0_41 (pl_0 hb) rfl dX0_stepOrder_8 ?_
  refine jg_top (y := nI n) (hu) ?_
  refine jg_iconst (v := 2) dX0_stepOrder_11 (by decide) ?_
  refine jg_isubE (z := dI (n - 1)) dX0_stepOrder_12 (dI_2 h1) ?_
  refine jg_istore_n dX0_stepOrder_13 rfl (by decide) rfl ?_
  have cut_14 : ∀ (m t : Nat), t < m → t ≤ n - 1 → kf o t = kf o (n - 1) → G E cX0_stepOrder 6 (yX0_stepOrder).cls none 1 (kV (fun u2 => (∀ k, k ≠ b + 7 → u2 k = u k) ∧ ∀ x, x < n → u2 (b + 7) x = nI (nextP n o x))) 14 [some (.ref (E.2.1 b)), some (.ref (E.2.1 (b + 7))), some (.int (dI t)), none, none, none] [] u := by
    intro m
    induction m with
    | zero => intro t h; omega
    | succ m ih =>
      intro t hm ht hk
      refine jg_iload_n dX0_stepOrder_14 rfl rfl ?_
      refine jg_if_lt 35 dX0_stepOrder_15 (by decide) (fun h_15 => ?_) (fun h_15 => ?_)
      · obtain rfl : t = 0 := by rcases t with _ | s; rfl; rw [dI_s] at h_15; exact absurd h_15 (nI_pos (by omega))
        refine jg_iload_n dX0_stepOrder_35 rfl rfl ?_
        refine jg_if_ge 40 dX0_stepOrder_36 (by decide) (fun h_36 => absurd h_36 (by decide)) (fun h_36 => ?_)
        exact jg_vret dX0_stepOrder_39 ⟨rfl, ⟨fun _ _ => rfl, fun x hx => by unfold nextP; rw [← hk]; exact ho x hx⟩⟩
      · obtain ⟨s, rfl⟩ : ∃ s, t = s + 1 := by rcases t with _ | s; exact absurd dI_0 h_15; exact ⟨s, rfl⟩
        rw [dI_s]
        have hs0 := hB s (by omega)
        have hs1 := hB (s + 1) (by omega)
        refine jg_aload_n dX0_stepOrder_18 rfl rfl ?_
        refine jg_iload_n dX0_stepOrder_19 rfl rfl ?_
        refine jg_ld s (pl_7 hb) (by omega) (rfl) dX0_stepOrder_20 ?_
        refine jg_top (y := nI (o s)) (ho s (by omega)) ?_
        refine jg_aload_n dX0_stepOrder_21 rfl rfl ?_
        refine jg_iload_n dX0_stepOrder_22 rfl rfl ?_
        refine jg_iconst (v := 1) dX0_stepOrder_23 (by decide) ?_
        refine jg_iaddE (z := nI (s + 1)) dX0_stepOrder_24 (nI_add s 1) ?_
        refine jg_ld (s + 1) (pl_7 hb) (by omega) (rfl) dX0_stepOrder_25 ?_
        refine jg_top (y := nI (o (s + 1))) (ho (s + 1) (by omega)) ?_
        refine jn_icmp_le (o s) (o (s + 1)) rfl rfl (by omega) (by omega) 35 dX0_stepOrder_26 (by decide) (fun h_26 => ?_) (fun h_26 => ?_)
        · have ek : kf o (n - 1) = some s := by rw [← hk]; show (if _ then _ else _) = _; rw [if_neg (by omega)]
          refine jg_iload_n dX0_stepOrder_35 rfl rfl ?_
          refine jg_if_ge 40 dX0_stepOrder_36 (by decide) (fun h_36 => ?_) (fun h_36 => absurd h_36 (fun q => q (nI_pos' (by omega))))
          refine jg_aload_n dX0_stepOrder_40 rfl rfl ?_
          refine jg_geti fk_X0_41 (pl_0 hb) rfl dX0_stepOrder_41 ?_
          refine jg_top (y := nI n) (hu) ?_
          refine jg_iconst (v := 1) dX0_stepOrder_44 (by decide) ?_
          refine jg_isubE (z := nI (n - 1)) dX0_stepOrder_45 (pk_sub (a := n) (b := 1) h1) ?_
          refine jg_istore_n dX0_stepOrder_46 rfl (by decide) rfl ?_
          have cut_47 : ∀ (m j : Nat), j < m → s + 1 ≤ j → j ≤ n - 1 → jf o s j = jf o s (n - 1) → G E cX0_stepOrder 6 (yX0_stepOrder).cls none 1 (kV (fun u2 => (∀ k, k ≠ b + 7 → u2 k = u k) ∧ ∀ x, x < n → u2 (b + 7) x = nI (nextP n o x))) 47 [some (.ref (E.2.1 b)), some (.ref (E.2.1 (b + 7))), some (.int (nI s)), some (.int (nI j)), none, none] [] u := by
            intro m
            induction m with
            | zero => intro j h; omega
            | succ m ih2 =>
              intro j hm2 hj1 hj2 hjf
              refine jg_iload_n dX0_stepOrder_47 rfl rfl ?_
              refine jg_iload_n dX0_stepOrder_48 rfl rfl ?_
              refine jg_iconst (v := 1) dX0_stepOrder_49 (by decide) ?_
              refine jg_iaddE (z := nI (s + 1)) dX0_stepOrder_50 (nI_add s 1) ?_
              refine jn_icmp_le j (s + 1) rfl rfl (by omega) (by omega) 69 dX0_stepOrder_51 (by decide) (fun h_51 => ?_) (fun h_51 => ?_)
              · have ej : jf o s (n - 1) = j := by rw [← hjf]; exact jf_stop (by omega) (Or.inl h_51)
                refine jg_aload_n dX0_stepOrder_69 rfl rfl ?_
                refine jg_iload_n dX0_stepOrder_70 rfl rfl ?_
                refine jg_iload_n dX0_stepOrder_71 rfl rfl ?_
                refine jg_callS (c0_swap E (pl_7 hb) u s j (by omega) (by omega)) me_X0_swap ml_X0_54 rfl (by decide) (by decide) rfl (Nat.le_of_ble_eq_true rfl) dX0_stepOrder_72 (kk_V (fun u_72 h_72 => ?_))
                obtain rfl := h_72
                refine jg_aload_n dX0_stepOrder_75 rfl rfl ?_
                refine jg_geti fk_X0_41 (pl_0 hb) rfl dX0_stepOrder_76 ?_
                refine jg_top (y := nI n) (by rw [s2_row (by omega), s2_row (by omega)]; exact hu) ?_
                refine jg_iconst (v := 1) dX0_stepOrder_79 (by decide) ?_
                refine jg_isubE (z := nI (n - 1)) dX0_stepOrder_80 (pk_sub (a := n) (b := 1) h1) ?_
                refine jg_istore dX0_stepOrder_81 (by decide) rfl ?_
                refine jg_iload_n dX0_stepOrder_83 rfl rfl ?_
                refine jg_iconst (v := 1) dX0_stepOrder_84 (by decide) ?_
                refine jg_iaddE (z := nI (s + 1)) dX0_stepOrder_85 (nI_add s 1) ?_
                refine jg_istore dX0_stepOrder_86 (by decide) rfl ?_
                have cut_88 : ∀ (M f l q : Nat) (oo : Nat → Nat) (v : Mm), f ≤ l + 1 → l + 1 < f + M → l < n → l ≤ f + q → (∀ k, k ≠ b + 7 → v k = u k) → (∀ x, x < n → v (b + 7) x = nI (oo x)) → rvF q oo f l = nextP n o → G E cX0_stepOrder 6 (yX0_stepOrder).cls none 1 (kV (fun u2 => (∀ k, k ≠ b + 7 → u2 k = u k) ∧ ∀ x, x < n → u2 (b + 7) x = nI (nextP n o x))) 88 [some (.ref (E.2.1 b)), some (.ref (E.2.1 (b + 7))), some (.int (nI s)), some (.int (nI j)), some (.int (nI l)), some (.int (nI f))] [] v := by
                  intro M
                  induction M with
                  | zero => intro f l q oo v h1 h2; omega
                  | succ M ih3 =>
                    intro f l q oo v hf hM hl hq hfr hv hT
                    refine jg_iload dX0_stepOrder_88 rfl ?_
                    refine jg_iload dX0_stepOrder_90 rfl ?_
                    refine jn_icmp_ge f l rfl rfl (by omega) (by omega) 112 dX0_stepOrder_92 (by decide) (fun h_92 => ?_) (fun h_92 => ?_)
                    · exact jg_vret dX0_stepOrder_112 ⟨rfl, ⟨hfr, fun x hx => by rw [hv x hx, ← hT, rv_stop (by omega)]⟩⟩
                    · refine jg_aload_n dX0_stepOrder_95 rfl rfl ?_
                      refine jg_iload dX0_stepOrder_96 rfl ?_
                      refine jg_iload dX0_stepOrder_98 rfl ?_
                      refine jg_callS (c0_swap E (pl_7 hb) v f l (by omega) (by omega)) me_X0_swap ml_X0_54 rfl (by decide) (by decide) rfl (Nat.le_of_ble_eq_true rfl) dX0_stepOrder_100 (kk_V (fun u_100 h_100 => ?_))
                      obtain rfl := h_100
                      refine jg_iinc (v := nI (l - 1)) dX0_stepOrder_103 rfl ((dI_m l).trans (by unfold dI; exact pk_sub (a := l) (b := 1) (by omega))) (by decide) rfl ?_
                      refine jg_iinc (v := nI (f + 1)) dX0_stepOrder_106 rfl (nI_1 f) (by decide) rfl ?_
                      refine jg_goto 88 dX0_stepOrder_109 (by decide) ?_
                      obtain ⟨q, rfl⟩ : ∃ z, q = z + 1 := ⟨q - 1, by omega⟩
                      exact ih3 (f + 1) (l - 1) q (swF oo f l) _ (by omega) (by omega) (by omega) (by omega) (fun k hk9 => by rw [s2_row hk9, s2_row hk9]; exact hfr k hk9) (sw_row hv (by omega) hl) (by rw [← hT, rv_go h_92])
                exact cut_88 (n + 1) (s + 1) (n - 1) n (swF o s j) _ (by omega) (by omega) (by omega) (by omega) (fun k hk9 => by rw [s2_row hk9, s2_row hk9]) (sw_row ho (by omega) (by omega)) (by unfold nextP; rw [ek]; show _ = rvF n (swF o s (jf o s (n - 1))) (s + 1) (n - 1); rw [ej])
              · have hj9 := hB j (by omega)
                refine jg_aload_n dX0_stepOrder_54 rfl rfl ?_
                refine jg_iload_n dX0_stepOrder_55 rfl rfl ?_
                refine jg_ld j (pl_7 hb) (by omega) (rfl) dX0_stepOrder_56 ?_
                refine jg_top (y := nI (o j)) (ho j (by omega)) ?_
                refine jg_aload_n dX0_stepOrder_57 rfl rfl ?_
                refine jg_iload_n dX0_stepOrder_58 rfl rfl ?_
                refine jg_ld s (pl_7 hb) (by omega) (rfl) dX0_stepOrder_59 ?_
                refine jg_top (y := nI (o s)) (ho s (by omega)) ?_
                refine jn_icmp_ge (o j) (o s) rfl rfl (by omega) (by omega) 69 dX0_stepOrder_60 (by decide) (fun h_60 => ?_) (fun h_60 => ?_)
                · have ej : jf o s (n - 1) = j := by rw [← hjf]; exact jf_stop (by omega) (Or.inr h_60)
                  refine jg_aload_n dX0_stepOrder_69 rfl rfl ?_
                  refine jg_iload_n dX0_stepOrder_70 rfl rfl ?_
                  refine jg_iload_n dX0_stepOrder_71 rfl rfl ?_
                  refine jg_callS (c0_swap E (pl_7 hb) u s j (by omega) (by omega)) me_X0_swap ml_X0_54 rfl (by decide) (by decide) rfl (Nat.le_of_ble_eq_true rfl) dX0_stepOrder_72 (kk_V (fun u_72 h_72 => ?_))
                  obtain rfl := h_72
                  refine jg_aload_n dX0_stepOrder_75 rfl rfl ?_
                  refine jg_geti fk_X0_41 (pl_0 hb) rfl dX0_stepOrder_76 ?_
                  refine jg_top (y := nI n) (by rw [s2_row (by omega), s2_row (by omega)]; exact hu) ?_
                  refine jg_iconst (v := 1) dX0_stepOrder_79 (by decide) ?_
                  refine jg_isubE (z := nI (n - 1)) dX0_stepOrder_80 (pk_sub (a := n) (b := 1) h1) ?_
                  refine jg_istore dX0_stepOrder_81 (by decide) rfl ?_
                  refine jg_iload_n dX0_stepOrder_83 rfl rfl ?_
                  refine jg_iconst (v := 1) dX0_stepOrder_84 (by decide) ?_
                  refine jg_iaddE (z := nI (s + 1)) dX0_stepOrder_85 (nI_add s 1) ?_
                  refine jg_istore dX0_stepOrder_86 (by decide) rfl ?_
                  have cut_88 : ∀ (M f l q : Nat) (oo : Nat → Nat) (v : Mm), f ≤ l + 1 → l + 1 < f + M → l < n → l ≤ f + q → (∀ k, k ≠ b + 7 → v k = u k) → (∀ x, x < n → v (b + 7) x = nI (oo x)) → rvF q oo f l = nextP n o → G E cX0_stepOrder 6 (yX0_stepOrder).cls none 1 (kV (fun u2 => (∀ k, k ≠ b + 7 → u2 k = u k) ∧ ∀ x, x < n → u2 (b + 7) x = nI (nextP n o x))) 88 [some (.ref (E.2.1 b)), some (.ref (E.2.1 (b + 7))), some (.int (nI s)), some (.int (nI j)), some (.int (nI l)), some (.int (nI f))] [] v := by
                    intro M
                    induction M with
                    | zero => intro f l q oo v h1 h2; omega
                    | succ M ih3 =>
                      intro f l q oo v hf hM hl hq hfr hv hT
                      refine jg_iload dX0_stepOrder_88 rfl ?_
                      refine jg_iload dX0_stepOrder_90 rfl ?_
                      refine jn_icmp_ge f l rfl rfl (by omega) (by omega) 112 dX0_stepOrder_92 (by decide) (fun h_92 => ?_) (fun h_92 => ?_)
                      · exact jg_vret dX0_stepOrder_112 ⟨rfl, ⟨hfr, fun x hx => by rw [hv x hx, ← hT, rv_stop (by omega)]⟩⟩
                      · refine jg_aload_n dX0_stepOrder_95 rfl rfl ?_
                        refine jg_iload dX0_stepOrder_96 rfl ?_
                        refine jg_iload dX0_stepOrder_98 rfl ?_
                        refine jg_callS (c0_swap E (pl_7 hb) v f l (by omega) (by omega)) me_X0_swap ml_X0_54 rfl (by decide) (by decide) rfl (Nat.le_of_ble_eq_true rfl) dX0_stepOrder_100 (kk_V (fun u_100 h_100 => ?_))
                        obtain rfl := h_100
                        refine jg_iinc (v := nI (l - 1)) dX0_stepOrder_103 rfl ((dI_m l).trans (by unfold dI; exact pk_sub (a := l) (b := 1) (by omega))) (by decide) rfl ?_
                        refine jg_iinc (v := nI (f + 1)) dX0_stepOrder_106 rfl (nI_1 f) (by decide) rfl ?_
                        refine jg_goto 88 dX0_stepOrder_109 (by decide) ?_
                        obtain ⟨q, rfl⟩ : ∃ z, q = z + 1 := ⟨q - 1, by omega⟩
                        exact ih3 (f + 1) (l - 1) q (swF oo f l) _ (by omega) (by omega) (by omega) (by omega) (fun k hk9 => by rw [s2_row hk9, s2_row hk9]; exact hfr k hk9) (sw_row hv (by omega) hl) (by rw [← hT, rv_go h_92])
                  exact cut_88 (n + 1) (s + 1) (n - 1) n (swF o s j) _ (by omega) (by omega) (by omega) (by omega) (fun k hk9 => by rw [s2_row hk9, s2_row hk9]) (sw_row ho (by omega) (by omega)) (by unfold nextP; rw [ek]; show _ = rvF n (swF o s (jf o s (n - 1))) (s + 1) (n - 1); rw [ej])
                · have ej : True := trivial
                  refine jg_iinc (v := nI (j - 1)) dX0_stepOrder_63 rfl ((dI_m j).trans (by unfold dI; exact pk_sub (a := j) (b := 1) (by omega))) (by decide) rfl ?_
                  refine jg_goto 47 dX0_stepOrder_66 (by decide) ?_
                  exact ih2 (j - 1) (by omega) (by omega) (by omega) (by rw [← hjf, jf_go (by omega) h_60])
          exact cut_47 (n + 1) (n - 1) (by omega) (by omega) (Nat.le_refl _) rfl
        · have ek : kf o (s + 1) = kf o s := by show (if _ then _ else _) = _; rw [if_pos h_26]
          refine jg_iinc (v := dI s) dX0_stepOrder_29 rfl (dI_m s) (by decide) rfl ?_
          refine jg_goto 14 dX0_stepOrder_32 (by decide) ?_
          exact ih s (by omega) (by omega) (by rw [← hk, ek])
  exact cut_14 (n + 1) (n - 1) (by omega) (Nat.le_refl _) rfl
end
section
/-! the reference's plan -/
def MdB (u : Mm) (p : Pic) : Prop := u 57 5 = nI (pn p) ∧ ∀ i, i < pn p → u 61 i = nI (p 1 i) ∧ u 62 i = nI (p 2 i) ∧ u 63 i = nI (p 3 i) ∧ u 65 i = nI (p 6 i) ∧ u 65 (6 + i) = nI (p 7 i)
/-- nothing is without a length -/
def PicP (p : Pic) : Prop := ∀ a, a < pn p → 1 ≤ p 2 a ∧ 1 ≤ p 3 a
def MdL (u : Mm) (p : Pic) : Prop := (∀ a, a < pn p → u 73 a = nI (p1F p a) ∧ u 71 a = nI (xF p a) ∧ u 72 a = nI (yF p a)) ∧ u 57 22 = nI (brP p) ∧ u 57 23 = nI (dpP p)
/-- what finding places may change -/
def MF (u v : Mm) : Prop := (∀ k, k ≠ 57 → k ≠ 71 → k ≠ 72 → k ≠ 73 → v k = u k) ∧ ∀ j, j ≠ 22 → j ≠ 23 → v 57 j = u 57 j
def BF (u v : Mm) : Prop := (∀ k, k ≠ 57 → k ≠ 71 → v k = u k) ∧ ∀ j, j ≠ 22 → v 57 j = u 57 j
def DF (u v : Mm) : Prop := (∀ k, k ≠ 57 → k ≠ 72 → v k = u k) ∧ ∀ j, j ≠ 23 → v 57 j = u 57 j
theorem MF.rf {u : Mm} : MF u u := ⟨fun _ _ _ _ _ => rfl, fun _ _ _ => rfl⟩
theorem MF.tr {u v w : Mm} (h : MF u v) (h2 : MF v w) : MF u w := ⟨fun k a b c d => (h2.1 k a b c d).trans (h.1 k a b c d), fun j a b => (h2.2 j a b).trans (h.2 j a b)⟩
theorem BF.rf {u : Mm} : BF u u := ⟨fun _ _ _ => rfl, fun _ _ => rfl⟩
theorem DF.rf {u : Mm} : DF u u := ⟨fun _ _ _ => rfl, fun _ _ => rfl⟩
theorem BF.mf {u v : Mm} (h : BF u v) : MF u v := ⟨fun k a b _ _ => h.1 k a b, fun j a _ => h.2 j a⟩
theorem DF.mf {u v : Mm} (h : DF u v) : MF u v := ⟨fun k a _ c _ => h.1 k a c, fun j _ a => h.2 j a⟩
theorem BF.tr {u v w : Mm} (h : BF u v) (h2 : BF v w) : BF u w := ⟨fun k a b => (h2.1 k a b).trans (h.1 k a b), fun j a => (h2.2 j a).trans (h.2 j a)⟩
theorem BF.row {u v : Mm} {j : Nat} {x : Int32} (h : BF u v) : BF u (s2 v 71 j x) := ⟨fun k a b => by rw [s2_row b]; exact h.1 k a b, fun j a => by rw [s2_row (by decide)]; exact h.2 j a⟩
theorem BF.fld {u v : Mm} {x : Int32} (h : BF u v) : BF u (s2 v 57 22 x) := ⟨fun k a b => by rw [s2_row a]; exact h.1 k a b, fun j a => by rw [s2_ne a]; exact h.2 j a⟩
theorem DF.row {u v : Mm} {j : Nat} {x : Int32} (h : DF u v) : DF u (s2 v 72 j x) := ⟨fun k a b => by rw [s2_row b]; exact h.1 k a b, fun j a => by rw [s2_row (by decide)]; exact h.2 j a⟩
theorem DF.fld {u v : Mm} {x : Int32} (h : DF u v) : DF u (s2 v 57 23 x) := ⟨fun k a b => by rw [s2_row a]; exact h.1 k a b, fun j a => by rw [s2_ne a]; exact h.2 j a⟩
theorem MdB.fr {u v : Mm} {p : Pic} (h : MdB u p) (f : MF u v) : MdB v p := by
  refine ⟨(f.2 5 (by decide) (by decide)).trans h.1, fun i hi => ?_⟩
  rw [f.1 61 (by decide) (by decide) (by decide) (by decide), f.1 62 (by decide) (by decide) (by decide) (by decide), f.1 63 (by decide) (by decide) (by decide) (by decide), f.1 65 (by decide) (by decide) (by decide) (by decide)]
  exact h.2 i hi
theorem szF_pos {p : Pic} {a : Nat} (h : 1 ≤ p 2 a) : 1 ≤ szF p a := by
  unfold szF
  split <;> (try split) <;> omega
theorem hgF_pos {p : Pic} {a : Nat} (h : 1 ≤ p 2 a) (h2 : 1 ≤ p 3 a) : 1 ≤ hgF p a := by
  have h3 := szF_pos h
  unfold hgF
  exact (Nat.le_div_iff_mul_le h2).mpr (by omega)
theorem tch_self {p : Pic} (h : PicP p) {a : Nat} (ha : a < pn p) : tchF p a a = false := by
  have h1 := h a ha
  have h2 := hgF_pos h1.1 h1.2
  unfold tchF meetN
  have e1 : decide (xF p a + p 3 a = xF p a) = false := by simp; omega
  have e2 : decide (yF p a + hgF p a = yF p a) = false := by simp; omega
  simp only [e1, e2, Bool.or_false, Bool.false_and]
theorem sub2 (x : Int32) (a b : Nat) : x - nI a - nI b = x - nI (a + b) := by
  rw [← nI_add, Int32.sub_eq_add_neg, Int32.sub_eq_add_neg, Int32.sub_eq_add_neg, Int32.neg_add, Int32.add_assoc, Int32.sub_eq_add_neg]
theorem half : ∀ t, t < 64 → nI t >>> ((1 : Int32) &&& 31) = nI (t / 2) := by decide +kernel
theorem low1 : ∀ t, t < 64 → nI t &&& 1 = nI (t % 2) := by decide +kernel
theorem pcN_half {t : Nat} (h : t < 64) : pcN t = t % 2 + pcN (t / 2) := by
  unfold pcN
  omega
theorem dec_inc {a : Nat} (h : 1 ≤ a) : nI (a - 1) + 1 = nI a := by
  rw [nI_1]
  congr 1
  omega
end
section
set_option maxHeartbeats 4000000 in
set_option maxRecDepth 20000 in
theorem c4_heightOf (E : gT) (u : Mm) (p : Pic) (hp : PicOk p) (hM : MdB u p) (a : Nat) (ha : a < pn p) (h1 : 1 ≤ p 3 a) : Con E yX4_heightOf cX4_heightOf 3 (some .int) 0 [.ref (E.2.1 57), .int (nI a)] u (kI (fun r u2 => r = nI (hgF p a) ∧ u = u2)) := by
  have hn := hp.1
  have hk := hp.2.1 a ha
  refine Con.of (lv := [some (.ref (E.2.1 57)), some (.int (nI a)), none]) (by decide +kernel) (Nat.le_of_ble_eq_true rfl) rfl ?_
  refine jg_aload_n dX4_heightOf_0 rfl rfl ?_
  refine jg_getr fk_X4_19 sh_57 rfl dX4_heightOf_1 ?_
  refine jg_iload_n dX4_heightOf_4 rfl rfl ?_
  refine jg_ld a sh_61 (by omega) (rfl) dX4_heightOf_5 ?_
  refine jg_top (y := nI (p 1 a)) ((hM.2 a ha).1) ?_
  refine jn_if_ne (p 1 a) rfl (by omega) 18 dX4_heightOf_6 (by decide) (fun h_6 => ?_) (fun h_6 => ?_)
  · refine jg_aload_n dX4_heightOf_18 rfl rfl ?_
    refine jg_getr fk_X4_19 sh_57 rfl dX4_heightOf_19 ?_
    refine jg_iload_n dX4_heightOf_22 rfl rfl ?_
    refine jg_ld a sh_61 (by omega) (rfl) dX4_heightOf_23 ?_
    refine jg_top (y := nI (p 1 a)) ((hM.2 a ha).1) ?_
    refine jg_iconst (v := 1) dX4_heightOf_24 (by decide) ?_
    refine jn_icmp_ne (p 1 a) 1 rfl rfl (by omega) (by omega) 39 dX4_heightOf_25 (by decide) (fun h_25 => ?_) (fun h_25 => ?_)
    · have es : szF p a = 2 * p 2 a := by simp [szF, show p 1 a = 2 by omega]
      refine jg_iconst (v := 2) dX4_heightOf_39 (by decide) ?_
      refine jg_aload_n dX4_heightOf_40 rfl rfl ?_
      refine jg_getr fk_X4_22 sh_57 rfl dX4_heightOf_41 ?_
      refine jg_iload_n dX4_heightOf_44 rfl rfl ?_
      refine jg_ld a sh_62 (by omega) (rfl) dX4_heightOf_45 ?_
      refine jg_top (y := nI (p 2 a)) ((hM.2 a ha).2.1) ?_
      refine jg_imulE (z := nI (2 * (p 2 a))) dX4_heightOf_46 (pk_mul 2 (p 2 a)) ?_
      refine jg_istore_n dX4_heightOf_47 rfl (by decide) rfl ?_
      refine jg_iload_n dX4_heightOf_48 rfl rfl ?_
      refine jg_aload_n dX4_heightOf_49 rfl rfl ?_
      refine jg_getr fk_X4_25 sh_57 rfl dX4_heightOf_50 ?_
      refine jg_iload_n dX4_heightOf_53 rfl rfl ?_
      refine jg_ld a sh_63 (by omega) (rfl) dX4_heightOf_54 ?_
      refine jg_top (y := nI (p 3 a)) ((hM.2 a ha).2.2.1) ?_
      refine jg_iaddE (z := nI ((2 * (p 2 a)) + (p 3 a))) dX4_heightOf_55 (nI_add (2 * (p 2 a)) (p 3 a)) ?_
      refine jg_iconst (v := 1) dX4_heightOf_56 (by decide) ?_
      refine jg_isubE (z := nI ((2 * (p 2 a)) + p 3 a - 1)) dX4_heightOf_57 (pk_sub (a := (2 * (p 2 a)) + p 3 a) (b := 1) (by omega)) ?_
      refine jg_aload_n dX4_heightOf_58 rfl rfl ?_
      refine jg_getr fk_X4_25 sh_57 rfl dX4_heightOf_59 ?_
      refine jg_iload_n dX4_heightOf_62 rfl rfl ?_
      refine jg_ld a sh_63 (by omega) (rfl) dX4_heightOf_63 ?_
      refine jg_top (y := nI (p 3 a)) ((hM.2 a ha).2.2.1) ?_
      refine jg_idivE (z := nI (hgF p a)) dX4_heightOf_64 (nI_ne0 (by omega) (by omega)) (by unfold hgF; rw [es]; exact pk_div (by omega) (by omega) (by omega)) ?_
      exact jg_iret (rfl) dX4_heightOf_65 ⟨_, rfl, ⟨rfl, rfl⟩⟩
    · have es : szF p a = p 2 a + 1 := by simp [szF, h_25]
      refine jg_aload_n dX4_heightOf_28 rfl rfl ?_
      refine jg_getr fk_X4_22 sh_57 rfl dX4_heightOf_29 ?_
      refine jg_iload_n dX4_heightOf_32 rfl rfl ?_
      refine jg_ld a sh_62 (by omega) (rfl) dX4_heightOf_33 ?_
      refine jg_top (y := nI (p 2 a)) ((hM.2 a ha).2.1) ?_
      refine jg_iconst (v := 1) dX4_heightOf_34 (by decide) ?_
      refine jg_iaddE (z := nI ((p 2 a) + 1)) dX4_heightOf_35 (nI_add (p 2 a) 1) ?_
      refine jg_goto 47 dX4_heightOf_36 (by decide) ?_
      refine jg_istore_n dX4_heightOf_47 rfl (by decide) rfl ?_
      refine jg_iload_n dX4_heightOf_48 rfl rfl ?_
      refine jg_aload_n dX4_heightOf_49 rfl rfl ?_
      refine jg_getr fk_X4_25 sh_57 rfl dX4_heightOf_50 ?_
      refine jg_iload_n dX4_heightOf_53 rfl rfl ?_
      refine jg_ld a sh_63 (by omega) (rfl) dX4_heightOf_54 ?_
      refine jg_top (y := nI (p 3 a)) ((hM.2 a ha).2.2.1) ?_
      refine jg_iaddE (z := nI (((p 2 a) + 1) + (p 3 a))) dX4_heightOf_55 (nI_add ((p 2 a) + 1) (p 3 a)) ?_
      refine jg_iconst (v := 1) dX4_heightOf_56 (by decide) ?_
      refine jg_isubE (z := nI (((p 2 a) + 1) + p 3 a - 1)) dX4_heightOf_57 (pk_sub (a := ((p 2 a) + 1) + p 3 a) (b := 1) (by omega)) ?_
      refine jg_aload_n dX4_heightOf_58 rfl rfl ?_
      refine jg_getr fk_X4_25 sh_57 rfl dX4_heightOf_59 ?_
      refine jg_iload_n dX4_heightOf_62 rfl rfl ?_
      refine jg_ld a sh_63 (by omega) (rfl) dX4_heightOf_63 ?_
      refine jg_top (y := nI (p 3 a)) ((hM.2 a ha).2.2.1) ?_
      refine jg_idivE (z := nI (hgF p a)) dX4_heightOf_64 (nI_ne0 (by omega) (by omega)) (by unfold hgF; rw [es]; exact pk_div (by omega) (by omega) (by omega)) ?_
      exact jg_iret (rfl) dX4_heightOf_65 ⟨_, rfl, ⟨rfl, rfl⟩⟩
  · have es : szF p a = p 2 a := by simp [szF, h_6]
    refine jg_aload_n dX4_heightOf_9 rfl rfl ?_
    refine jg_getr fk_X4_22 sh_57 rfl dX4_heightOf_10 ?_
    refine jg_iload_n dX4_heightOf_13 rfl rfl ?_
    refine jg_ld a sh_62 (by omega) (rfl) dX4_heightOf_14 ?_
    refine jg_top (y := nI (p 2 a)) ((hM.2 a ha).2.1) ?_
    refine jg_goto 47 dX4_heightOf_15 (by decide) ?_
    refine jg_istore_n dX4_heightOf_47 rfl (by decide) rfl ?_
    refine jg_iload_n dX4_heightOf_48 rfl rfl ?_
    refine jg_aload_n dX4_heightOf_49 rfl rfl ?_
    refine jg_getr fk_X4_25 sh_57 rfl dX4_heightOf_50 ?_
    refine jg_iload_n dX4_heightOf_53 rfl rfl ?_
    refine jg_ld a sh_63 (by omega) (rfl) dX4_heightOf_54 ?_
    refine jg_top (y := nI (p 3 a)) ((hM.2 a ha).2.2.1) ?_
    refine jg_iaddE (z := nI ((p 2 a) + (p 3 a))) dX4_heightOf_55 (nI_add (p 2 a) (p 3 a)) ?_
    refine jg_iconst (v := 1) dX4_heightOf_56 (by decide) ?_
    refine jg_isubE (z := nI ((p 2 a) + p 3 a - 1)) dX4_heightOf_57 (pk_sub (a := (p 2 a) + p 3 a) (b := 1) (by omega)) ?_
    refine jg_aload_n dX4_heightOf_58 rfl rfl ?_
    refine jg_getr fk_X4_25 sh_57 rfl dX4_heightOf_59 ?_
    refine jg_iload_n dX4_heightOf_62 rfl rfl ?_
    refine jg_ld a sh_63 (by omega) (rfl) dX4_heightOf_63 ?_
    refine jg_top (y := nI (p 3 a)) ((hM.2 a ha).2.2.1) ?_
    refine jg_idivE (z := nI (hgF p a)) dX4_heightOf_64 (nI_ne0 (by omega) (by omega)) (by unfold hgF; rw [es]; exact pk_div (by omega) (by omega) (by omega)) ?_
    exact jg_iret (rfl) dX4_heightOf_65 ⟨_, rfl, ⟨rfl, rfl⟩⟩
set_option maxHeartbeats 4000000 in
set_option maxRecDepth 20000 in
theorem c4_findBreadth (E : gT) (u : Mm) (p : Pic) (hp : PicOk p) (hM : MdB u p) (h73 : ∀ a, a < pn p → u 73 a = nI (p1F p a)) : Con E yX4_findBreadth cX4_findBreadth 5 none 0 [.ref (E.2.1 57)] u (kV (fun u2 => BF u u2 ∧ (∀ a, a < pn p → u2 71 a = nI (xF p a)) ∧ u2 57 22 = nI (brP p))) := by
  have hn := hp.1
  refine Con.of (lv := [some (.ref (E.2.1 57)), none, none, none, none]) (by decide +kernel) (Nat.le_of_ble_eq_true rfl) rfl ?_
  refine jg_aload_n dX4_findBreadth_0 rfl rfl ?_
  refine jg_iconst (v := 0) dX4_findBreadth_1 (by decide) ?_
  refine jg_puti fp_X4_136 sh_57 rfl dX4_findBreadth_2 ?_
  refine jg_iconst (v := 0) dX4_findBreadth_5 (by decide) ?_
  refine jg_istore_n dX4_findBreadth_6 rfl (by decide) rfl ?_
  have cut_7 : ∀ (m i : Nat) (v : Mm), i ≤ pn p → pn p < i + m → BF u v → (∀ q, q < i → v 71 (p 6 q) = nI (xF p (p 6 q))) → v 57 22 = nI (brF (p 3) (p 6) (xF p) i) → G E cX4_findBreadth 5 (yX4_findBreadth).cls none 0 (kV (fun u2 => BF u u2 ∧ (∀ a, a < pn p → u2 71 a = nI (xF p a)) ∧ u2 57 22 = nI (brP p))) 7 [some (.ref (E.2.1 57)), some (.int (nI i)), none, none, none] [] v := by
    intro m
    induction m with
    | zero => intro i v h1 h2; omega
    | succ m ih =>
      intro i v hi hm hF hq0 hbr
      refine jg_iload_n dX4_findBreadth_7 rfl rfl ?_
      refine jg_aload_n dX4_findBreadth_8 rfl rfl ?_
      refine jg_geti fk_X4_86 sh_57 rfl dX4_findBreadth_9 ?_
      refine jg_top (y := nI (pn p)) ((hF.2 5 (by decide)).trans hM.1) ?_
      refine jn_icmp_ge i (pn p) rfl rfl (by omega) (by omega) 170 dX4_findBreadth_12 (by decide) (fun h_12 => ?_) (fun h_12 => ?_)
      · obtain rfl : i = pn p := by omega
        exact jg_vret dX4_findBreadth_170 ⟨rfl, ⟨hF, fun a ha => by obtain ⟨k, hk, rfl⟩ := hp.2.2.1.2.2 a ha; exact hq0 k hk, hbr⟩⟩
      · have h6 := hp.2.2.1.1 i h_12
        have bi : p1F p (p 6 i) < pn p := inv_lt hp.2.2.2 h6
        have hB1 := hM.fr hF.mf
        refine jg_aload_n dX4_findBreadth_15 rfl rfl ?_
        refine jg_getr fk_X4_31 sh_57 rfl dX4_findBreadth_16 ?_
        refine jg_iload_n dX4_findBreadth_19 rfl rfl ?_
        refine jg_ld i sh_65 (by omega) (rfl) dX4_findBreadth_20 ?_
        refine jg_top (y := nI (p 6 i)) ((hB1.2 i h_12).2.2.2.1) ?_
        refine jg_istore_n dX4_findBreadth_21 rfl (by decide) rfl ?_
        refine jg_aload_n dX4_findBreadth_22 rfl rfl ?_
        refine jg_getr fk_X4_49 sh_57 rfl dX4_findBreadth_23 ?_
        refine jg_iload_n dX4_findBreadth_26 rfl rfl ?_
        refine jg_iconst (v := 0) dX4_findBreadth_27 (by decide) ?_
        refine jg_st (p 6 i) sh_71 (by omega) (rfl) dX4_findBreadth_28 ?_
        refine jg_iconst (v := 0) dX4_findBreadth_29 (by decide) ?_
        refine jg_istore_n dX4_findBreadth_30 rfl (by decide) rfl ?_
        have cut_31 : ∀ (m2 q : Nat) (v2 : Mm), q ≤ i → i < q + m2 → BF u v2 → (∀ a, a < i → v2 71 (p 6 a) = nI (xF p (p 6 a))) → v2 71 (p 6 i) = nI (mF (cX p) (p 3) (p 6) (xF p) (p 6 i) q) → v2 57 22 = nI (brF (p 3) (p 6) (xF p) i) → G E cX4_findBreadth 5 (yX4_findBreadth).cls none 0 (kV (fun u2 => BF u u2 ∧ (∀ a, a < pn p → u2 71 a = nI (xF p a)) ∧ u2 57 22 = nI (brP p))) 31 [some (.ref (E.2.1 57)), some (.int (nI i)), some (.int (nI (p 6 i))), some (.int (nI q)), none] [] v2 := by
          intro m2
          induction m2 with
          | zero => intro q v2 h1 h2; omega
          | succ m2 ih2 =>
            intro q v2 hq hm2 hF2 hq2 hcur hbr2
            refine jg_iload_n dX4_findBreadth_31 rfl rfl ?_
            refine jg_iload_n dX4_findBreadth_32 rfl rfl ?_
            refine jn_icmp_ge q i rfl rfl (by omega) (by omega) 120 dX4_findBreadth_33 (by decide) (fun h_33 => ?_) (fun h_33 => ?_)
            · obtain rfl : i = q := by omega
              have bxi : mF (cX p) (p 3) (p 6) (xF p) (p 6 i) i ≤ 63 := mF_le i (fun a ha => by have := xF_le hp (hp.2.2.1.1 a (by omega)); have := (hp.2.1 _ (hp.2.2.1.1 a (by omega))).2.2; omega)
              have bbr : brF (p 3) (p 6) (xF p) i ≤ 63 := brF_le i (fun a ha => by have := xF_le hp (hp.2.2.1.1 a (by omega)); have := (hp.2.1 _ (hp.2.2.1.1 a (by omega))).2.2; omega)
              have bwi := (hp.2.1 _ (hp.2.2.1.1 i (by omega))).2.2
              have eXi : xF p (p 6 i) = mF (cX p) (p 3) (p 6) (xF p) (p 6 i) i := xF_eq hp h_12
              have hB2 := hM.fr hF2.mf
              refine jg_aload_n dX4_findBreadth_120 rfl rfl ?_
              refine jg_aload_n dX4_findBreadth_121 rfl rfl ?_
              refine jg_getr fk_X4_49 sh_57 rfl dX4_findBreadth_122 ?_
              refine jg_iload_n dX4_findBreadth_125 rfl rfl ?_
              refine jg_ld (p 6 i) sh_71 (by omega) (rfl) dX4_findBreadth_126 ?_
              refine jg_top (y := nI (mF (cX p) (p 3) (p 6) (xF p) (p 6 i) i)) (hcur) ?_
              refine jg_aload_n dX4_findBreadth_127 rfl rfl ?_
              refine jg_getr fk_X4_25 sh_57 rfl dX4_findBreadth_128 ?_
              refine jg_iload_n dX4_findBreadth_131 rfl rfl ?_
              refine jg_ld (p 6 i) sh_63 (by omega) (rfl) dX4_findBreadth_132 ?_
              refine jg_top (y := nI (p 3 (p 6 i))) ((hB2.2 _ h6).2.2.1) ?_
              refine jg_iaddE (z := nI ((mF (cX p) (p 3) (p 6) (xF p) (p 6 i) i) + (p 3 (p 6 i)))) dX4_findBreadth_133 (nI_add (mF (cX p) (p 3) (p 6) (xF p) (p 6 i) i) (p 3 (p 6 i))) ?_
              refine jg_aload_n dX4_findBreadth_134 rfl rfl ?_
              refine jg_geti fk_X4_136 sh_57 rfl dX4_findBreadth_135 ?_
              refine jg_top (y := nI (brF (p 3) (p 6) (xF p) i)) (hbr2) ?_
              refine jn_icmp_le ((mF (cX p) (p 3) (p 6) (xF p) (p 6 i) i) + (p 3 (p 6 i))) (brF (p 3) (p 6) (xF p) i) rfl rfl (by omega) (by omega) 157 dX4_findBreadth_138 (by decide) (fun h_138 => ?_) (fun h_138 => ?_)
              · have eB : brF (p 3) (p 6) (xF p) (i + 1) = brF (p 3) (p 6) (xF p) i := by show max _ _ = _; rw [eXi]; omega
                refine jg_aload_n dX4_findBreadth_157 rfl rfl ?_
                refine jg_geti fk_X4_136 sh_57 rfl dX4_findBreadth_158 ?_
                refine jg_top (y := nI (brF (p 3) (p 6) (xF p) i)) (hbr2) ?_
                refine jg_puti fp_X4_136 sh_57 rfl dX4_findBreadth_161 ?_
                refine jg_iinc (v := nI (i + 1)) dX4_findBreadth_164 rfl (nI_1 i) (by decide) rfl ?_
                refine jg_goto 7 dX4_findBreadth_167 (by decide) ?_
                have hq3 : ∀ q, q < i + 1 → v2 71 (p 6 q) = nI (xF p (p 6 q)) := fun q hq => by by_cases e : q = i; (subst e; rw [eXi]; exact hcur); exact hq2 q (by omega)
                exact jg_weak (gLe_s (gLe_s (gLe_n (gLe_n (gLe_n gLe_nil))))) (ih (i + 1) _ (by omega) (by omega) hF2.fld (fun q hq => by rw [s2_row (by decide)]; exact hq3 q hq) (by rw [s2_self, eB]))
              · have eB : brF (p 3) (p 6) (xF p) (i + 1) = mF (cX p) (p 3) (p 6) (xF p) (p 6 i) i + p 3 (p 6 i) := by show max _ _ = _; rw [eXi]; omega
                refine jg_aload_n dX4_findBreadth_141 rfl rfl ?_
                refine jg_getr fk_X4_49 sh_57 rfl dX4_findBreadth_142 ?_
                refine jg_iload_n dX4_findBreadth_145 rfl rfl ?_
                refine jg_ld (p 6 i) sh_71 (by omega) (rfl) dX4_findBreadth_146 ?_
                refine jg_top (y := nI (mF (cX p) (p 3) (p 6) (xF p) (p 6 i) i)) (hcur) ?_
                refine jg_aload_n dX4_findBreadth_147 rfl rfl ?_
                refine jg_getr fk_X4_25 sh_57 rfl dX4_findBreadth_148 ?_
                refine jg_iload_n dX4_findBreadth_151 rfl rfl ?_
                refine jg_ld (p 6 i) sh_63 (by omega) (rfl) dX4_findBreadth_152 ?_
                refine jg_top (y := nI (p 3 (p 6 i))) ((hB2.2 _ h6).2.2.1) ?_
                refine jg_iaddE (z := nI ((mF (cX p) (p 3) (p 6) (xF p) (p 6 i) i) + (p 3 (p 6 i)))) dX4_findBreadth_153 (nI_add (mF (cX p) (p 3) (p 6) (xF p) (p 6 i) i) (p 3 (p 6 i))) ?_
                refine jg_goto 161 dX4_findBreadth_154 (by decide) ?_
                refine jg_puti fp_X4_136 sh_57 rfl dX4_findBreadth_161 ?_
                refine jg_iinc (v := nI (i + 1)) dX4_findBreadth_164 rfl (nI_1 i) (by decide) rfl ?_
                refine jg_goto 7 dX4_findBreadth_167 (by decide) ?_
                have hq3 : ∀ q, q < i + 1 → v2 71 (p 6 q) = nI (xF p (p 6 q)) := fun q hq => by by_cases e : q = i; (subst e; rw [eXi]; exact hcur); exact hq2 q (by omega)
                exact jg_weak (gLe_s (gLe_s (gLe_n (gLe_n (gLe_n gLe_nil))))) (ih (i + 1) _ (by omega) (by omega) hF2.fld (fun q hq => by rw [s2_row (by decide)]; exact hq3 q hq) (by rw [s2_self, eB]))
            · have hq6 := hp.2.2.1.1 q (by omega)
              have b1 : p1F p (p 6 q) < pn p := inv_lt hp.2.2.2 hq6
              have bx := xF_le hp hq6
              have bw := (hp.2.1 _ (hp.2.2.1.1 q (by omega))).2.2
              have bm : mF (cX p) (p 3) (p 6) (xF p) (p 6 i) q ≤ 63 := mF_le q (fun a ha => by have := xF_le hp (hp.2.2.1.1 a (by omega)); have := (hp.2.1 _ (hp.2.2.1.1 a (by omega))).2.2; omega)
              have hB2 := hM.fr hF2.mf
              refine jg_aload_n dX4_findBreadth_36 rfl rfl ?_
              refine jg_getr fk_X4_31 sh_57 rfl dX4_findBreadth_37 ?_
              refine jg_iload_n dX4_findBreadth_40 rfl rfl ?_
              refine jg_ld q sh_65 (by omega) (rfl) dX4_findBreadth_41 ?_
              refine jg_top (y := nI (p 6 q)) ((hB2.2 q (by omega)).2.2.2.1) ?_
              refine jg_istore dX4_findBreadth_42 (by decide) rfl ?_
              refine jg_aload_n dX4_findBreadth_44 rfl rfl ?_
              refine jg_getr fk_X4_49 sh_57 rfl dX4_findBreadth_45 ?_
              refine jg_iload_n dX4_findBreadth_48 rfl rfl ?_
              refine jg_aload_n dX4_findBreadth_49 rfl rfl ?_
              refine jg_getr fk_X4_55 sh_57 rfl dX4_findBreadth_50 ?_
              refine jg_iload dX4_findBreadth_53 rfl ?_
              refine jg_ld (p 6 q) sh_73 (by omega) (rfl) dX4_findBreadth_55 ?_
              refine jg_top (y := nI (p1F p (p 6 q))) (by rw [hF2.1 73 (by decide) (by decide)]; exact h73 _ hq6) ?_
              refine jg_aload_n dX4_findBreadth_56 rfl rfl ?_
              refine jg_getr fk_X4_55 sh_57 rfl dX4_findBreadth_57 ?_
              refine jg_iload_n dX4_findBreadth_60 rfl rfl ?_
              refine jg_ld (p 6 i) sh_73 (by omega) (rfl) dX4_findBreadth_61 ?_
              refine jg_top (y := nI (p1F p (p 6 i))) (by rw [hF2.1 73 (by decide) (by decide)]; exact h73 _ h6) ?_
              refine jn_icmp_ge (p1F p (p 6 q)) (p1F p (p 6 i)) rfl rfl (by omega) (by omega) 107 dX4_findBreadth_62 (by decide) (fun h_62 => ?_) (fun h_62 => ?_)
              · have eM : mF (cX p) (p 3) (p 6) (xF p) (p 6 i) (q + 1) = mF (cX p) (p 3) (p 6) (xF p) (p 6 i) q := by show (if _ then _ else _) = _; rw [if_neg (by simp only [cX, decide_eq_true_eq]; omega)]
                refine jg_aload_n dX4_findBreadth_107 rfl rfl ?_
                refine jg_getr fk_X4_49 sh_57 rfl dX4_findBreadth_108 ?_
                refine jg_iload_n dX4_findBreadth_111 rfl rfl ?_
                refine jg_ld (p 6 i) sh_71 (by omega) (rfl) dX4_findBreadth_112 ?_
                refine jg_top (y := nI (mF (cX p) (p 3) (p 6) (xF p) (p 6 i) q)) (hcur) ?_
                refine jg_st (p 6 i) sh_71 (by omega) (rfl) dX4_findBreadth_113 ?_
                refine jg_iinc (v := nI (q + 1)) dX4_findBreadth_114 rfl (nI_1 q) (by decide) rfl ?_
                refine jg_goto 31 dX4_findBreadth_117 (by decide) ?_
                exact jg_weak (gLe_s (gLe_s (gLe_s (gLe_s (gLe_n gLe_nil))))) (ih2 (q + 1) _ (by omega) (by omega) hF2.row (fun a ha => by rw [s2_ne (fun z => by have := hp.2.2.1.2.1 a i (by omega) h_12 z; omega)]; exact hq2 a ha) (by rw [s2_self, eM]) (by rw [s2_row (by decide)]; exact hbr2))
              · have eM0 : mF (cX p) (p 3) (p 6) (xF p) (p 6 i) (q + 1) = max (mF (cX p) (p 3) (p 6) (xF p) (p 6 i) q) (xF p (p 6 q) + p 3 (p 6 q)) := by show (if _ then _ else _) = _; rw [if_pos (by simp only [cX, decide_eq_true_eq]; omega)]
                refine jg_aload_n dX4_findBreadth_65 rfl rfl ?_
                refine jg_getr fk_X4_49 sh_57 rfl dX4_findBreadth_66 ?_
                refine jg_iload dX4_findBreadth_69 rfl ?_
                refine jg_ld (p 6 q) sh_71 (by omega) (rfl) dX4_findBreadth_71 ?_
                refine jg_top (y := nI (xF p (p 6 q))) (hq2 q (by omega)) ?_
                refine jg_aload_n dX4_findBreadth_72 rfl rfl ?_
                refine jg_getr fk_X4_25 sh_57 rfl dX4_findBreadth_73 ?_
                refine jg_iload dX4_findBreadth_76 rfl ?_
                refine jg_ld (p 6 q) sh_63 (by omega) (rfl) dX4_findBreadth_78 ?_
                refine jg_top (y := nI (p 3 (p 6 q))) ((hB2.2 _ hq6).2.2.1) ?_
                refine jg_iaddE (z := nI ((xF p (p 6 q)) + (p 3 (p 6 q)))) dX4_findBreadth_79 (nI_add (xF p (p 6 q)) (p 3 (p 6 q))) ?_
                refine jg_aload_n dX4_findBreadth_80 rfl rfl ?_
                refine jg_getr fk_X4_49 sh_57 rfl dX4_findBreadth_81 ?_
                refine jg_iload_n dX4_findBreadth_84 rfl rfl ?_
                refine jg_ld (p 6 i) sh_71 (by omega) (rfl) dX4_findBreadth_85 ?_
                refine jg_top (y := nI (mF (cX p) (p 3) (p 6) (xF p) (p 6 i) q)) (hcur) ?_
                refine jn_icmp_le ((xF p (p 6 q)) + (p 3 (p 6 q))) (mF (cX p) (p 3) (p 6) (xF p) (p 6 i) q) rfl rfl (by omega) (by omega) 107 dX4_findBreadth_86 (by decide) (fun h_86 => ?_) (fun h_86 => ?_)
                · have eM : mF (cX p) (p 3) (p 6) (xF p) (p 6 i) (q + 1) = mF (cX p) (p 3) (p 6) (xF p) (p 6 i) q := by rw [eM0]; omega
                  refine jg_aload_n dX4_findBreadth_107 rfl rfl ?_
                  refine jg_getr fk_X4_49 sh_57 rfl dX4_findBreadth_108 ?_
                  refine jg_iload_n dX4_findBreadth_111 rfl rfl ?_
                  refine jg_ld (p 6 i) sh_71 (by omega) (rfl) dX4_findBreadth_112 ?_
                  refine jg_top (y := nI (mF (cX p) (p 3) (p 6) (xF p) (p 6 i) q)) (hcur) ?_
                  refine jg_st (p 6 i) sh_71 (by omega) (rfl) dX4_findBreadth_113 ?_
                  refine jg_iinc (v := nI (q + 1)) dX4_findBreadth_114 rfl (nI_1 q) (by decide) rfl ?_
                  refine jg_goto 31 dX4_findBreadth_117 (by decide) ?_
                  exact jg_weak (gLe_s (gLe_s (gLe_s (gLe_s (gLe_n gLe_nil))))) (ih2 (q + 1) _ (by omega) (by omega) hF2.row (fun a ha => by rw [s2_ne (fun z => by have := hp.2.2.1.2.1 a i (by omega) h_12 z; omega)]; exact hq2 a ha) (by rw [s2_self, eM]) (by rw [s2_row (by decide)]; exact hbr2))
                · have eM : mF (cX p) (p 3) (p 6) (xF p) (p 6 i) (q + 1) = xF p (p 6 q) + p 3 (p 6 q) := by rw [eM0]; omega
                  refine jg_aload_n dX4_findBreadth_89 rfl rfl ?_
                  refine jg_getr fk_X4_49 sh_57 rfl dX4_findBreadth_90 ?_
                  refine jg_iload dX4_findBreadth_93 rfl ?_
                  refine jg_ld (p 6 q) sh_71 (by omega) (rfl) dX4_findBreadth_95 ?_
                  refine jg_top (y := nI (xF p (p 6 q))) (hq2 q (by omega)) ?_
                  refine jg_aload_n dX4_findBreadth_96 rfl rfl ?_
                  refine jg_getr fk_X4_25 sh_57 rfl dX4_findBreadth_97 ?_
                  refine jg_iload dX4_findBreadth_100 rfl ?_
                  refine jg_ld (p 6 q) sh_63 (by omega) (rfl) dX4_findBreadth_102 ?_
                  refine jg_top (y := nI (p 3 (p 6 q))) ((hB2.2 _ hq6).2.2.1) ?_
                  refine jg_iaddE (z := nI ((xF p (p 6 q)) + (p 3 (p 6 q)))) dX4_findBreadth_103 (nI_add (xF p (p 6 q)) (p 3 (p 6 q))) ?_
                  refine jg_goto 113 dX4_findBreadth_104 (by decide) ?_
                  refine jg_st (p 6 i) sh_71 (by omega) (rfl) dX4_findBreadth_113 ?_
                  refine jg_iinc (v := nI (q + 1)) dX4_findBreadth_114 rfl (nI_1 q) (by decide) rfl ?_
                  refine jg_goto 31 dX4_findBreadth_117 (by decide) ?_
                  exact jg_weak (gLe_s (gLe_s (gLe_s (gLe_s (gLe_n gLe_nil))))) (ih2 (q + 1) _ (by omega) (by omega) hF2.row (fun a ha => by rw [s2_ne (fun z => by have := hp.2.2.1.2.1 a i (by omega) h_12 z; omega)]; exact hq2 a ha) (by rw [s2_self, eM]) (by rw [s2_row (by decide)]; exact hbr2))
        exact jg_weak (gLe_s (gLe_s (gLe_s (gLe_s (gLe_n gLe_nil))))) (cut_31 (i + 1) 0 _ (Nat.zero_le _) (by omega) hF.row (fun a ha => by rw [s2_ne (fun z => by have := hp.2.2.1.2.1 a i (by omega) h_12 z; omega)]; exact hq0 a ha) (by rw [s2_self]; rfl) (by rw [s2_row (by decide)]; exact hbr))
  exact jg_weak (gLe_s (gLe_s (gLe_n (gLe_n (gLe_n gLe_nil))))) (cut_7 (pn p + 1) 0 _ (Nat.zero_le _) (by omega) BF.rf.fld (fun q h => by omega) (by rw [s2_self]; rfl))
set_option maxHeartbeats 4000000 in
set_option maxRecDepth 20000 in
theorem c4_findDepth (E : gT) (u : Mm) (p : Pic) (hp : PicOk p) (hM : MdB u p) (h73 : ∀ a, a < pn p → u 73 a = nI (p1F p a)) (h1 : ∀ a, a < pn p → 1 ≤ p 3 a) : Con E yX4_findDepth cX4_findDepth 5 none 1 [.ref (E.2.1 57)] u (kV (fun u2 => DF u u2 ∧ (∀ a, a < pn p → u2 72 a = nI (yF p a)) ∧ u2 57 23 = nI (dpP p))) := by
  have hn := hp.1
  refine Con.of (lv := [some (.ref (E.2.1 57)), none, none, none, none]) (by decide +kernel) (Nat.le_of_ble_eq_true rfl) rfl ?_
  refine jg_aload_n dX4_findDepth_0 rfl rfl ?_
  refine jg_iconst (v := 0) dX4_findDepth_1 (by decide) ?_
  refine jg_puti fp_X4_139 sh_57 rfl dX4_findDepth_2 ?_
  refine jg_iconst (v := 0) dX4_findDepth_5 (by decide) ?_
  refine jg_istore_n dX4_findDepth_6 rfl (by decide) rfl ?_
  have cut_7 : ∀ (m i : Nat) (v : Mm), i ≤ pn p → pn p < i + m → DF u v → (∀ q, q < i → v 72 (p 6 q) = nI (yF p (p 6 q))) → v 57 23 = nI (brF (hgF p) (p 6) (yF p) i) → G E cX4_findDepth 5 (yX4_findDepth).cls none 1 (kV (fun u2 => DF u u2 ∧ (∀ a, a < pn p → u2 72 a = nI (yF p a)) ∧ u2 57 23 = nI (dpP p))) 7 [some (.ref (E.2.1 57)), some (.int (nI i)), none, none, none] [] v := by
    intro m
    induction m with
    | zero => intro i v h1 h2; omega
    | succ m ih =>
      intro i v hi hm hF hq0 hbr
      refine jg_iload_n dX4_findDepth_7 rfl rfl ?_
      refine jg_aload_n dX4_findDepth_8 rfl rfl ?_
      refine jg_geti fk_X4_86 sh_57 rfl dX4_findDepth_9 ?_
      refine jg_top (y := nI (pn p)) ((hF.2 5 (by decide)).trans hM.1) ?_
      refine jn_icmp_ge i (pn p) rfl rfl (by omega) (by omega) 166 dX4_findDepth_12 (by decide) (fun h_12 => ?_) (fun h_12 => ?_)
      · obtain rfl : i = pn p := by omega
        exact jg_vret dX4_findDepth_166 ⟨rfl, ⟨hF, fun a ha => by obtain ⟨k, hk, rfl⟩ := hp.2.2.1.2.2 a ha; exact hq0 k hk, hbr⟩⟩
      · have h6 := hp.2.2.1.1 i h_12
        have bi : p1F p (p 6 i) < pn p := inv_lt hp.2.2.2 h6
        have hB1 := hM.fr hF.mf
        refine jg_aload_n dX4_findDepth_15 rfl rfl ?_
        refine jg_getr fk_X4_31 sh_57 rfl dX4_findDepth_16 ?_
        refine jg_iload_n dX4_findDepth_19 rfl rfl ?_
        refine jg_ld i sh_65 (by omega) (rfl) dX4_findDepth_20 ?_
        refine jg_top (y := nI (p 6 i)) ((hB1.2 i h_12).2.2.2.1) ?_
        refine jg_istore_n dX4_findDepth_21 rfl (by decide) rfl ?_
        refine jg_aload_n dX4_findDepth_22 rfl rfl ?_
        refine jg_getr fk_X4_52 sh_57 rfl dX4_findDepth_23 ?_
        refine jg_iload_n dX4_findDepth_26 rfl rfl ?_
        refine jg_iconst (v := 0) dX4_findDepth_27 (by decide) ?_
        refine jg_st (p 6 i) sh_72 (by omega) (rfl) dX4_findDepth_28 ?_
        refine jg_iconst (v := 0) dX4_findDepth_29 (by decide) ?_
        refine jg_istore_n dX4_findDepth_30 rfl (by decide) rfl ?_
        have cut_31 : ∀ (m2 q : Nat) (v2 : Mm), q ≤ i → i < q + m2 → DF u v2 → (∀ a, a < i → v2 72 (p 6 a) = nI (yF p (p 6 a))) → v2 72 (p 6 i) = nI (mF (cY p) (hgF p) (p 6) (yF p) (p 6 i) q) → v2 57 23 = nI (brF (hgF p) (p 6) (yF p) i) → G E cX4_findDepth 5 (yX4_findDepth).cls none 1 (kV (fun u2 => DF u u2 ∧ (∀ a, a < pn p → u2 72 a = nI (yF p a)) ∧ u2 57 23 = nI (dpP p))) 31 [some (.ref (E.2.1 57)), some (.int (nI i)), some (.int (nI (p 6 i))), some (.int (nI q)), none] [] v2 := by
          intro m2
          induction m2 with
          | zero => intro q v2 h1 h2; omega
          | succ m2 ih2 =>
            intro q v2 hq hm2 hF2 hq2 hcur hbr2
            refine jg_iload_n dX4_findDepth_31 rfl rfl ?_
            refine jg_iload_n dX4_findDepth_32 rfl rfl ?_
            refine jn_icmp_ge q i rfl rfl (by omega) (by omega) 118 dX4_findDepth_33 (by decide) (fun h_33 => ?_) (fun h_33 => ?_)
            · obtain rfl : i = q := by omega
              have bxi : mF (cY p) (hgF p) (p 6) (yF p) (p 6 i) i ≤ 126 := mF_le i (fun a ha => by have := yF_le hp (hp.2.2.1.1 a (by omega)); have := hgF_le hp (hp.2.2.1.1 a (by omega)); omega)
              have bbr : brF (hgF p) (p 6) (yF p) i ≤ 126 := brF_le i (fun a ha => by have := yF_le hp (hp.2.2.1.1 a (by omega)); have := hgF_le hp (hp.2.2.1.1 a (by omega)); omega)
              have bwi := hgF_le hp (hp.2.2.1.1 i (by omega))
              have eXi : yF p (p 6 i) = mF (cY p) (hgF p) (p 6) (yF p) (p 6 i) i := yF_eq hp h_12
              have hB2 := hM.fr hF2.mf
              refine jg_aload_n dX4_findDepth_118 rfl rfl ?_
              refine jg_aload_n dX4_findDepth_119 rfl rfl ?_
              refine jg_getr fk_X4_52 sh_57 rfl dX4_findDepth_120 ?_
              refine jg_iload_n dX4_findDepth_123 rfl rfl ?_
              refine jg_ld (p 6 i) sh_72 (by omega) (rfl) dX4_findDepth_124 ?_
              refine jg_top (y := nI (mF (cY p) (hgF p) (p 6) (yF p) (p 6 i) i)) (hcur) ?_
              refine jg_aload_n dX4_findDepth_125 rfl rfl ?_
              refine jg_iload_n dX4_findDepth_126 rfl rfl ?_
              refine jg_callV (c4_heightOf E v2 p hp hB2 (p 6 i) h6 (h1 _ h6)) me_X4_heightOf ml_X4_142 sh_57 rfl rfl (by decide) (by decide) rfl (Nat.le_of_ble_eq_true rfl) dX4_findDepth_127 (kk_I (fun r_127 u_127 h_127 => ?_))
              obtain ⟨rfl, rfl⟩ := h_127
              refine jg_iaddE (z := nI ((mF (cY p) (hgF p) (p 6) (yF p) (p 6 i) i) + (hgF p (p 6 i)))) dX4_findDepth_130 (nI_add (mF (cY p) (hgF p) (p 6) (yF p) (p 6 i) i) (hgF p (p 6 i))) ?_
              refine jg_aload_n dX4_findDepth_131 rfl rfl ?_
              refine jg_geti fk_X4_139 sh_57 rfl dX4_findDepth_132 ?_
              refine jg_top (y := nI (brF (hgF p) (p 6) (yF p) i)) (hbr2) ?_
              refine jn_icmp_le ((mF (cY p) (hgF p) (p 6) (yF p) (p 6 i) i) + (hgF p (p 6 i))) (brF (hgF p) (p 6) (yF p) i) rfl rfl (by omega) (by omega) 153 dX4_findDepth_135 (by decide) (fun h_135 => ?_) (fun h_135 => ?_)
              · have eB : brF (hgF p) (p 6) (yF p) (i + 1) = brF (hgF p) (p 6) (yF p) i := by show max _ _ = _; rw [eXi]; omega
                refine jg_aload_n dX4_findDepth_153 rfl rfl ?_
                refine jg_geti fk_X4_139 sh_57 rfl dX4_findDepth_154 ?_
                refine jg_top (y := nI (brF (hgF p) (p 6) (yF p) i)) (hbr2) ?_
                refine jg_puti fp_X4_139 sh_57 rfl dX4_findDepth_157 ?_
                refine jg_iinc (v := nI (i + 1)) dX4_findDepth_160 rfl (nI_1 i) (by decide) rfl ?_
                refine jg_goto 7 dX4_findDepth_163 (by decide) ?_
                have hq3 : ∀ q, q < i + 1 → v2 72 (p 6 q) = nI (yF p (p 6 q)) := fun q hq => by by_cases e : q = i; (subst e; rw [eXi]; exact hcur); exact hq2 q (by omega)
                exact jg_weak (gLe_s (gLe_s (gLe_n (gLe_n (gLe_n gLe_nil))))) (ih (i + 1) _ (by omega) (by omega) hF2.fld (fun q hq => by rw [s2_row (by decide)]; exact hq3 q hq) (by rw [s2_self, eB]))
              · have eB : brF (hgF p) (p 6) (yF p) (i + 1) = mF (cY p) (hgF p) (p 6) (yF p) (p 6 i) i + hgF p (p 6 i) := by show max _ _ = _; rw [eXi]; omega
                refine jg_aload_n dX4_findDepth_138 rfl rfl ?_
                refine jg_getr fk_X4_52 sh_57 rfl dX4_findDepth_139 ?_
                refine jg_iload_n dX4_findDepth_142 rfl rfl ?_
                refine jg_ld (p 6 i) sh_72 (by omega) (rfl) dX4_findDepth_143 ?_
                refine jg_top (y := nI (mF (cY p) (hgF p) (p 6) (yF p) (p 6 i) i)) (hcur) ?_
                refine jg_aload_n dX4_findDepth_144 rfl rfl ?_
                refine jg_iload_n dX4_findDepth_145 rfl rfl ?_
                refine jg_callV (c4_heightOf E v2 p hp hB2 (p 6 i) h6 (h1 _ h6)) me_X4_heightOf ml_X4_142 sh_57 rfl rfl (by decide) (by decide) rfl (Nat.le_of_ble_eq_true rfl) dX4_findDepth_146 (kk_I (fun r_146 u_146 h_146 => ?_))
                obtain ⟨rfl, rfl⟩ := h_146
                refine jg_iaddE (z := nI ((mF (cY p) (hgF p) (p 6) (yF p) (p 6 i) i) + (hgF p (p 6 i)))) dX4_findDepth_149 (nI_add (mF (cY p) (hgF p) (p 6) (yF p) (p 6 i) i) (hgF p (p 6 i))) ?_
                refine jg_goto 157 dX4_findDepth_150 (by decide) ?_
                refine jg_puti fp_X4_139 sh_57 rfl dX4_findDepth_157 ?_
                refine jg_iinc (v := nI (i + 1)) dX4_findDepth_160 rfl (nI_1 i) (by decide) rfl ?_
                refine jg_goto 7 dX4_findDepth_163 (by decide) ?_
                have hq3 : ∀ q, q < i + 1 → v2 72 (p 6 q) = nI (yF p (p 6 q)) := fun q hq => by by_cases e : q = i; (subst e; rw [eXi]; exact hcur); exact hq2 q (by omega)
                exact jg_weak (gLe_s (gLe_s (gLe_n (gLe_n (gLe_n gLe_nil))))) (ih (i + 1) _ (by omega) (by omega) hF2.fld (fun q hq => by rw [s2_row (by decide)]; exact hq3 q hq) (by rw [s2_self, eB]))
            · have hq6 := hp.2.2.1.1 q (by omega)
              have b1 : p1F p (p 6 q) < pn p := inv_lt hp.2.2.2 hq6
              have bx := yF_le hp hq6
              have bw := hgF_le hp (hp.2.2.1.1 q (by omega))
              have bm : mF (cY p) (hgF p) (p 6) (yF p) (p 6 i) q ≤ 126 := mF_le q (fun a ha => by have := yF_le hp (hp.2.2.1.1 a (by omega)); have := hgF_le hp (hp.2.2.1.1 a (by omega)); omega)
              have hB2 := hM.fr hF2.mf
              refine jg_aload_n dX4_findDepth_36 rfl rfl ?_
              refine jg_getr fk_X4_31 sh_57 rfl dX4_findDepth_37 ?_
              refine jg_iload_n dX4_findDepth_40 rfl rfl ?_
              refine jg_ld q sh_65 (by omega) (rfl) dX4_findDepth_41 ?_
              refine jg_top (y := nI (p 6 q)) ((hB2.2 q (by omega)).2.2.2.1) ?_
              refine jg_istore dX4_findDepth_42 (by decide) rfl ?_
              refine jg_aload_n dX4_findDepth_44 rfl rfl ?_
              refine jg_getr fk_X4_52 sh_57 rfl dX4_findDepth_45 ?_
              refine jg_iload_n dX4_findDepth_48 rfl rfl ?_
              refine jg_aload_n dX4_findDepth_49 rfl rfl ?_
              refine jg_getr fk_X4_55 sh_57 rfl dX4_findDepth_50 ?_
              refine jg_iload dX4_findDepth_53 rfl ?_
              refine jg_ld (p 6 q) sh_73 (by omega) (rfl) dX4_findDepth_55 ?_
              refine jg_top (y := nI (p1F p (p 6 q))) (by rw [hF2.1 73 (by decide) (by decide)]; exact h73 _ hq6) ?_
              refine jg_aload_n dX4_findDepth_56 rfl rfl ?_
              refine jg_getr fk_X4_55 sh_57 rfl dX4_findDepth_57 ?_
              refine jg_iload_n dX4_findDepth_60 rfl rfl ?_
              refine jg_ld (p 6 i) sh_73 (by omega) (rfl) dX4_findDepth_61 ?_
              refine jg_top (y := nI (p1F p (p 6 i))) (by rw [hF2.1 73 (by decide) (by decide)]; exact h73 _ h6) ?_
              refine jn_icmp_le (p1F p (p 6 q)) (p1F p (p 6 i)) rfl rfl (by omega) (by omega) 105 dX4_findDepth_62 (by decide) (fun h_62 => ?_) (fun h_62 => ?_)
              · have eM : mF (cY p) (hgF p) (p 6) (yF p) (p 6 i) (q + 1) = mF (cY p) (hgF p) (p 6) (yF p) (p 6 i) q := by show (if _ then _ else _) = _; rw [if_neg (by simp only [cY, decide_eq_true_eq]; omega)]
                refine jg_aload_n dX4_findDepth_105 rfl rfl ?_
                refine jg_getr fk_X4_52 sh_57 rfl dX4_findDepth_106 ?_
                refine jg_iload_n dX4_findDepth_109 rfl rfl ?_
                refine jg_ld (p 6 i) sh_72 (by omega) (rfl) dX4_findDepth_110 ?_
                refine jg_top (y := nI (mF (cY p) (hgF p) (p 6) (yF p) (p 6 i) q)) (hcur) ?_
                refine jg_st (p 6 i) sh_72 (by omega) (rfl) dX4_findDepth_111 ?_
                refine jg_iinc (v := nI (q + 1)) dX4_findDepth_112 rfl (nI_1 q) (by decide) rfl ?_
                refine jg_goto 31 dX4_findDepth_115 (by decide) ?_
                exact jg_weak (gLe_s (gLe_s (gLe_s (gLe_s (gLe_n gLe_nil))))) (ih2 (q + 1) _ (by omega) (by omega) hF2.row (fun a ha => by rw [s2_ne (fun z => by have := hp.2.2.1.2.1 a i (by omega) h_12 z; omega)]; exact hq2 a ha) (by rw [s2_self, eM]) (by rw [s2_row (by decide)]; exact hbr2))
              · have eM0 : mF (cY p) (hgF p) (p 6) (yF p) (p 6 i) (q + 1) = max (mF (cY p) (hgF p) (p 6) (yF p) (p 6 i) q) (yF p (p 6 q) + hgF p (p 6 q)) := by show (if _ then _ else _) = _; rw [if_pos (by simp only [cY, decide_eq_true_eq]; omega)]
                refine jg_aload_n dX4_findDepth_65 rfl rfl ?_
                refine jg_getr fk_X4_52 sh_57 rfl dX4_findDepth_66 ?_
                refine jg_iload dX4_findDepth_69 rfl ?_
                refine jg_ld (p 6 q) sh_72 (by omega) (rfl) dX4_findDepth_71 ?_
                refine jg_top (y := nI (yF p (p 6 q))) (hq2 q (by omega)) ?_
                refine jg_aload_n dX4_findDepth_72 rfl rfl ?_
                refine jg_iload dX4_findDepth_73 rfl ?_
                refine jg_callV (c4_heightOf E v2 p hp hB2 (p 6 q) hq6 (h1 _ hq6)) me_X4_heightOf ml_X4_142 sh_57 rfl rfl (by decide) (by decide) rfl (Nat.le_of_ble_eq_true rfl) dX4_findDepth_75 (kk_I (fun r_75 u_75 h_75 => ?_))
                obtain ⟨rfl, rfl⟩ := h_75
                refine jg_iaddE (z := nI ((yF p (p 6 q)) + (hgF p (p 6 q)))) dX4_findDepth_78 (nI_add (yF p (p 6 q)) (hgF p (p 6 q))) ?_
                refine jg_aload_n dX4_findDepth_79 rfl rfl ?_
                refine jg_getr fk_X4_52 sh_57 rfl dX4_findDepth_80 ?_
                refine jg_iload_n dX4_findDepth_83 rfl rfl ?_
                refine jg_ld (p 6 i) sh_72 (by omega) (rfl) dX4_findDepth_84 ?_
                refine jg_top (y := nI (mF (cY p) (hgF p) (p 6) (yF p) (p 6 i) q)) (hcur) ?_
                refine jn_icmp_le ((yF p (p 6 q)) + (hgF p (p 6 q))) (mF (cY p) (hgF p) (p 6) (yF p) (p 6 i) q) rfl rfl (by omega) (by omega) 105 dX4_findDepth_85 (by decide) (fun h_85 => ?_) (fun h_85 => ?_)
                · have eM : mF (cY p) (hgF p) (p 6) (yF p) (p 6 i) (q + 1) = mF (cY p) (hgF p) (p 6) (yF p) (p 6 i) q := by rw [eM0]; omega
                  refine jg_aload_n dX4_findDepth_105 rfl rfl ?_
                  refine jg_getr fk_X4_52 sh_57 rfl dX4_findDepth_106 ?_
                  refine jg_iload_n dX4_findDepth_109 rfl rfl ?_
                  refine jg_ld (p 6 i) sh_72 (by omega) (rfl) dX4_findDepth_110 ?_
                  refine jg_top (y := nI (mF (cY p) (hgF p) (p 6) (yF p) (p 6 i) q)) (hcur) ?_
                  refine jg_st (p 6 i) sh_72 (by omega) (rfl) dX4_findDepth_111 ?_
                  refine jg_iinc (v := nI (q + 1)) dX4_findDepth_112 rfl (nI_1 q) (by decide) rfl ?_
                  refine jg_goto 31 dX4_findDepth_115 (by decide) ?_
                  exact jg_weak (gLe_s (gLe_s (gLe_s (gLe_s (gLe_n gLe_nil))))) (ih2 (q + 1) _ (by omega) (by omega) hF2.row (fun a ha => by rw [s2_ne (fun z => by have := hp.2.2.1.2.1 a i (by omega) h_12 z; omega)]; exact hq2 a ha) (by rw [s2_self, eM]) (by rw [s2_row (by decide)]; exact hbr2))
                · have eM : mF (cY p) (hgF p) (p 6) (yF p) (p 6 i) (q + 1) = yF p (p 6 q) + hgF p (p 6 q) := by rw [eM0]; omega
                  refine jg_aload_n dX4_findDepth_88 rfl rfl ?_
                  refine jg_getr fk_X4_52 sh_57 rfl dX4_findDepth_89 ?_
                  refine jg_iload dX4_findDepth_92 rfl ?_
                  refine jg_ld (p 6 q) sh_72 (by omega) (rfl) dX4_findDepth_94 ?_
                  refine jg_top (y := nI (yF p (p 6 q))) (hq2 q (by omega)) ?_
                  refine jg_aload_n dX4_findDepth_95 rfl rfl ?_
                  refine jg_iload dX4_findDepth_96 rfl ?_
                  refine jg_callV (c4_heightOf E v2 p hp hB2 (p 6 q) hq6 (h1 _ hq6)) me_X4_heightOf ml_X4_142 sh_57 rfl rfl (by decide) (by decide) rfl (Nat.le_of_ble_eq_true rfl) dX4_findDepth_98 (kk_I (fun r_98 u_98 h_98 => ?_))
                  obtain ⟨rfl, rfl⟩ := h_98
                  refine jg_iaddE (z := nI ((yF p (p 6 q)) + (hgF p (p 6 q)))) dX4_findDepth_101 (nI_add (yF p (p 6 q)) (hgF p (p 6 q))) ?_
                  refine jg_goto 111 dX4_findDepth_102 (by decide) ?_
                  refine jg_st (p 6 i) sh_72 (by omega) (rfl) dX4_findDepth_111 ?_
                  refine jg_iinc (v := nI (q + 1)) dX4_findDepth_112 rfl (nI_1 q) (by decide) rfl ?_
                  refine jg_goto 31 dX4_findDepth_115 (by decide) ?_
                  exact jg_weak (gLe_s (gLe_s (gLe_s (gLe_s (gLe_n gLe_nil))))) (ih2 (q + 1) _ (by omega) (by omega) hF2.row (fun a ha => by rw [s2_ne (fun z => by have := hp.2.2.1.2.1 a i (by omega) h_12 z; omega)]; exact hq2 a ha) (by rw [s2_self, eM]) (by rw [s2_row (by decide)]; exact hbr2))
        exact jg_weak (gLe_s (gLe_s (gLe_s (gLe_s (gLe_n gLe_nil))))) (cut_31 (i + 1) 0 _ (Nat.zero_le _) (by omega) hF.row (fun a ha => by rw [s2_ne (fun z => by have := hp.2.2.1.2.1 a i (by omega) h_12 z; omega)]; exact hq0 a ha) (by rw [s2_self]; rfl) (by rw [s2_row (by decide)]; exact hbr))
  exact jg_weak (gLe_s (gLe_s (gLe_n (gLe_n (gLe_n gLe_nil))))) (cut_7 (pn p + 1) 0 _ (Nat.zero_le _) (by omega) DF.rf.fld (fun q h => by omega) (by rw [s2_self]; rfl))
set_option maxHeartbeats 4000000 in
set_option maxRecDepth 20000 in
theorem c4_findPlaces (E : gT) (u : Mm) (p : Pic) (hp : PicOk p) (hM : MdB u p) (h1 : ∀ a, a < pn p → 1 ≤ p 3 a) : Con E yX4_findPlaces cX4_findPlaces 2 none 2 [.ref (E.2.1 57)] u (kV (fun u2 => MF u u2 ∧ MdL u2 p)) := by
  have hn := hp.1
  refine Con.of (lv := [some (.ref (E.2.1 57)), none]) (by decide +kernel) (Nat.le_of_ble_eq_true rfl) rfl ?_
  refine jg_iconst (v := 0) dX4_findPlaces_0 (by decide) ?_
  refine jg_istore_n dX4_findPlaces_1 rfl (by decide) rfl ?_
  have cut_2 : ∀ (m i : Nat) (v : Mm), i ≤ pn p → pn p < i + m → (∀ k, k ≠ 73 → v k = u k) → (∀ q, q < i → v 73 (p 7 q) = nI q) → G E cX4_findPlaces 2 (yX4_findPlaces).cls none 2 (kV (fun u2 => MF u u2 ∧ MdL u2 p)) 2 [some (.ref (E.2.1 57)), some (.int (nI i))] [] v := by
    intro m
    induction m with
    | zero => intro i v h1 h2; omega
    | succ m ih =>
      intro i v hi hm hfr hq
      refine jg_iload_n dX4_findPlaces_2 rfl rfl ?_
      refine jg_aload_n dX4_findPlaces_3 rfl rfl ?_
      refine jg_geti fk_X4_86 sh_57 rfl dX4_findPlaces_4 ?_
      refine jg_top (y := nI (pn p)) ((congrFun (hfr 57 (by decide)) 5).trans hM.1) ?_
      refine jn_icmp_ge i (pn p) rfl rfl (by omega) (by omega) 31 dX4_findPlaces_7 (by decide) (fun h_7 => ?_) (fun h_7 => ?_)
      · obtain rfl : i = pn p := by omega
        have hF0 : MF u v := ⟨fun k a b c d => hfr k d, fun j _ _ => by rw [hfr 57 (by decide)]⟩
        have h73 : ∀ a, a < pn p → v 73 a = nI (p1F p a) := fun a ha => by obtain ⟨k, hk, rfl⟩ := hp.2.2.2.2.2 a ha; rw [hq k hk]; unfold p1F; rw [inv_at hp.2.2.2.2.1 hk]
        refine jg_aload_n dX4_findPlaces_31 rfl rfl ?_
        refine jg_callV (c4_findBreadth E v p hp (hM.fr hF0) h73) me_X4_findBreadth ml_X4_145 sh_57 rfl rfl (by decide) (by decide) rfl (Nat.le_of_ble_eq_true rfl) dX4_findPlaces_32 (kk_V (fun u_32 h_32 => ?_))
        obtain ⟨hF1, hx, hbr⟩ := h_32
        refine jg_aload_n dX4_findPlaces_35 rfl rfl ?_
        refine jg_callV (c4_findDepth E u_32 p hp (hM.fr (hF0.tr hF1.mf)) (fun a ha => by rw [hF1.1 73 (by decide) (by decide)]; exact h73 a ha) h1) me_X4_findDepth ml_X4_148 sh_57 rfl rfl (by decide) (by decide) rfl (Nat.le_of_ble_eq_true rfl) dX4_findPlaces_36 (kk_V (fun u_36 h_36 => ?_))
        obtain ⟨hF2, hy, hdp⟩ := h_36
        exact jg_vret dX4_findPlaces_39 ⟨rfl, ⟨(hF0.tr hF1.mf).tr hF2.mf, ⟨fun a ha => ⟨by rw [hF2.1 73 (by decide) (by decide), hF1.1 73 (by decide) (by decide)]; exact h73 a ha, by rw [hF2.1 71 (by decide) (by decide)]; exact hx a ha, hy a ha⟩, by rw [hF2.2 22 (by decide)]; exact hbr, hdp⟩⟩⟩
      · have h7 := hp.2.2.2.1 i h_7
        refine jg_aload_n dX4_findPlaces_10 rfl rfl ?_
        refine jg_getr fk_X4_55 sh_57 rfl dX4_findPlaces_11 ?_
        refine jg_aload_n dX4_findPlaces_14 rfl rfl ?_
        refine jg_getr fk_X4_31 sh_57 rfl dX4_findPlaces_15 ?_
        refine jg_bipush (v := 6) dX4_findPlaces_18 (by decide) ?_
        refine jg_iload_n dX4_findPlaces_20 rfl rfl ?_
        refine jg_iaddE (z := nI (6 + i)) dX4_findPlaces_21 (nI_add 6 i) ?_
        refine jg_ld (6 + i) sh_65 (by omega) (rfl) dX4_findPlaces_22 ?_
        refine jg_top (y := nI (p 7 i)) (by rw [hfr 65 (by decide)]; exact (hM.2 i h_7).2.2.2.2) ?_
        refine jg_iload_n dX4_findPlaces_23 rfl rfl ?_
        refine jg_st (p 7 i) sh_73 (by omega) (rfl) dX4_findPlaces_24 ?_
        refine jg_iinc (v := nI (i + 1)) dX4_findPlaces_25 rfl (nI_1 i) (by decide) rfl ?_
        refine jg_goto 2 dX4_findPlaces_28 (by decide) ?_
        exact ih (i + 1) _ (by omega) (by omega) (fun k h => by rw [s2_row h]; exact hfr k h) (fun q h => by rw [s2_at]; exact upd_run hp.2.2.2.2.1 h_7 hq q h)
  exact cut_2 (pn p + 1) 0 u (Nat.zero_le _) (by omega) (fun _ _ => rfl) (fun q h => by omega)
set_option maxHeartbeats 4000000 in
set_option maxRecDepth 20000 in
theorem c4_placeIn (E : gT) (u : Mm) (f n a : Nat) (o : Nat → Nat) (hf : f ≤ 6) (hn : n ≤ 6) (ho : ∀ i, i < n → u 65 (f + i) = nI (o i)) (hpm : isPm o n) (ha : a < n) : Con E yX4_placeIn cX4_placeIn 4 (some .int) 0 [.ref (E.2.1 57), .int (nI f), .int (nI a)] u (kI (fun r u2 => r = nI (inv o n a) ∧ u = u2)) := by
  have hi := inv_lt hpm ha
  have he := inv_o hpm ha
  refine Con.of (lv := [some (.ref (E.2.1 57)), some (.int (nI f)), some (.int (nI a)), none]) (by decide +kernel) (Nat.le_of_ble_eq_true rfl) rfl ?_
  refine jg_iconst (v := 0) dX4_placeIn_0 (by decide) ?_
  refine jg_istore_n dX4_placeIn_1 rfl (by decide) rfl ?_
  have cut_2 : ∀ (m k : Nat), k ≤ inv o n a → inv o n a < k + m → G E cX4_placeIn 4 (yX4_placeIn).cls (some .int) 0 (kI (fun r u2 => r = nI (inv o n a) ∧ u = u2)) 2 [some (.ref (E.2.1 57)), some (.int (nI f)), some (.int (nI a)), some (.int (nI k))] [] u := by
    intro m
    induction m with
    | zero => intro k h1 h2; omega
    | succ m ih =>
      intro k hk hm
      have hok : o k < n := hpm.1 k (by omega)
      refine jg_aload_n dX4_placeIn_2 rfl rfl ?_
      refine jg_getr fk_X4_31 sh_57 rfl dX4_placeIn_3 ?_
      refine jg_iload_n dX4_placeIn_6 rfl rfl ?_
      refine jg_iload_n dX4_placeIn_7 rfl rfl ?_
      refine jg_iaddE (z := nI (f + k)) dX4_placeIn_8 (nI_add f k) ?_
      refine jg_ld (f + k) sh_65 (by omega) (rfl) dX4_placeIn_9 ?_
      refine jg_top (y := nI (o k)) (ho k (by omega)) ?_
      refine jg_iload_n dX4_placeIn_10 rfl rfl ?_
      refine jn_icmp_eq (o k) a rfl rfl (by omega) (by omega) 20 dX4_placeIn_11 (by decide) (fun h_11 => ?_) (fun h_11 => ?_)
      · have ek : inv o n a = k := by rw [← h_11]; exact inv_at hpm.2.1 (by omega)
        refine jg_iload_n dX4_placeIn_20 rfl rfl ?_
        exact jg_iret (rfl) dX4_placeIn_21 ⟨_, rfl, ⟨by rw [ek], rfl⟩⟩
      · have ek : k ≠ inv o n a := fun z => h_11 (by rw [z]; exact he)
        refine jg_iinc (v := nI (k + 1)) dX4_placeIn_14 rfl (nI_1 k) (by decide) rfl ?_
        refine jg_goto 2 dX4_placeIn_17 (by decide) ?_
        exact ih (k + 1) (by omega) (by omega)
  exact cut_2 (n + 1) 0 (Nat.zero_le _) (by omega)
set_option maxHeartbeats 4000000 in
set_option maxRecDepth 20000 in
theorem c4_isLeft (E : gT) (u : Mm) (p : Pic) (hp : PicOk p) (hM : MdB u p) (a c : Nat) (ha : a < pn p) (hc : c < pn p) : Con E yX4_isLeft cX4_isLeft 3 (some .boolean) 1 [.ref (E.2.1 57), .int (nI a), .int (nI c)] u (kI (fun r u2 => r = bI (decide (p0F p a < p0F p c) && decide (p1F p a < p1F p c)) ∧ u = u2)) := by
  have hn := hp.1
  have a0 : p0F p a < pn p := inv_lt hp.2.2.1 ha
  have a1 : p1F p a < pn p := inv_lt hp.2.2.2 ha
  have c0 : p0F p c < pn p := inv_lt hp.2.2.1 hc
  have c1 : p1F p c < pn p := inv_lt hp.2.2.2 hc
  refine Con.of (lv := [some (.ref (E.2.1 57)), some (.int (nI a)), some (.int (nI c))]) (by decide +kernel) (Nat.le_of_ble_eq_true rfl) rfl ?_
  refine jg_iload_n dX4_isLeft_0 rfl rfl ?_
  refine jg_iload_n dX4_isLeft_1 rfl rfl ?_
  refine jn_icmp_eq a c rfl rfl (by omega) (by omega) 41 dX4_isLeft_2 (by decide) (fun h_2 => ?_) (fun h_2 => ?_)
  · subst h_2
    refine jg_iconst (v := 0) dX4_isLeft_41 (by decide) ?_
    exact jg_iret (rfl) dX4_isLeft_42 ⟨_, rfl, ⟨by simp [bI] <;> omega, rfl⟩⟩
  · refine jg_aload_n dX4_isLeft_5 rfl rfl ?_
    refine jg_iconst (v := 0) dX4_isLeft_6 (by decide) ?_
    refine jg_iload_n dX4_isLeft_7 rfl rfl ?_
    refine jg_callV (c4_placeIn E u 0 (pn p) a (p 6) (by decide) hn (fun i hi => by rw [Nat.zero_add]; exact (hM.2 i hi).2.2.2.1) hp.2.2.1 ha) me_X4_placeIn ml_X4_132 sh_57 rfl rfl (by decide) (by decide) rfl (Nat.le_of_ble_eq_true rfl) dX4_isLeft_8 (kk_I (fun r_8 u_8 h_8 => ?_))
    obtain ⟨rfl, rfl⟩ := h_8
    refine jg_aload_n dX4_isLeft_11 rfl rfl ?_
    refine jg_iconst (v := 0) dX4_isLeft_12 (by decide) ?_
    refine jg_iload_n dX4_isLeft_13 rfl rfl ?_
    refine jg_callV (c4_placeIn E u 0 (pn p) c (p 6) (by decide) hn (fun i hi => by rw [Nat.zero_add]; exact (hM.2 i hi).2.2.2.1) hp.2.2.1 hc) me_X4_placeIn ml_X4_132 sh_57 rfl rfl (by decide) (by decide) rfl (Nat.le_of_ble_eq_true rfl) dX4_isLeft_14 (kk_I (fun r_14 u_14 h_14 => ?_))
    obtain ⟨rfl, rfl⟩ := h_14
    refine jn_icmp_ge (p0F p a) (p0F p c) rfl rfl (by omega) (by omega) 41 dX4_isLeft_17 (by decide) (fun h_17 => ?_) (fun h_17 => ?_)
    · refine jg_iconst (v := 0) dX4_isLeft_41 (by decide) ?_
      exact jg_iret (rfl) dX4_isLeft_42 ⟨_, rfl, ⟨by simp [bI] <;> omega, rfl⟩⟩
    · refine jg_aload_n dX4_isLeft_20 rfl rfl ?_
      refine jg_bipush (v := 6) dX4_isLeft_21 (by decide) ?_
      refine jg_iload_n dX4_isLeft_23 rfl rfl ?_
      refine jg_callV (c4_placeIn E u 6 (pn p) a (p 7) (by decide) hn (fun i hi => (hM.2 i hi).2.2.2.2) hp.2.2.2 ha) me_X4_placeIn ml_X4_132 sh_57 rfl rfl (by decide) (by decide) rfl (Nat.le_of_ble_eq_true rfl) dX4_isLeft_24 (kk_I (fun r_24 u_24 h_24 => ?_))
      obtain ⟨rfl, rfl⟩ := h_24
      refine jg_aload_n dX4_isLeft_27 rfl rfl ?_
      refine jg_bipush (v := 6) dX4_isLeft_28 (by decide) ?_
      refine jg_iload_n dX4_isLeft_30 rfl rfl ?_
      refine jg_callV (c4_placeIn E u 6 (pn p) c (p 7) (by decide) hn (fun i hi => (hM.2 i hi).2.2.2.2) hp.2.2.2 hc) me_X4_placeIn ml_X4_132 sh_57 rfl rfl (by decide) (by decide) rfl (Nat.le_of_ble_eq_true rfl) dX4_isLeft_31 (kk_I (fun r_31 u_31 h_31 => ?_))
      obtain ⟨rfl, rfl⟩ := h_31
      refine jn_icmp_ge (p1F p a) (p1F p c) rfl rfl (by omega) (by omega) 41 dX4_isLeft_34 (by decide) (fun h_34 => ?_) (fun h_34 => ?_)
      · refine jg_iconst (v := 0) dX4_isLeft_41 (by decide) ?_
        exact jg_iret (rfl) dX4_isLeft_42 ⟨_, rfl, ⟨by simp [bI] <;> omega, rfl⟩⟩
      · refine jg_iconst (v := 1) dX4_isLeft_37 (by decide) ?_
        refine jg_goto 42 dX4_isLeft_38 (by decide) ?_
        exact jg_iret (rfl) dX4_isLeft_42 ⟨_, rfl, ⟨by simp [bI] <;> omega, rfl⟩⟩
set_option maxHeartbeats 4000000 in
set_option maxRecDepth 20000 in
theorem c4_isAbove (E : gT) (u : Mm) (p : Pic) (hp : PicOk p) (hM : MdB u p) (a c : Nat) (ha : a < pn p) (hc : c < pn p) : Con E yX4_isAbove cX4_isAbove 3 (some .boolean) 1 [.ref (E.2.1 57), .int (nI a), .int (nI c)] u (kI (fun r u2 => r = bI (decide (p0F p a < p0F p c) && decide (p1F p c < p1F p a)) ∧ u = u2)) := by
  have hn := hp.1
  have a0 : p0F p a < pn p := inv_lt hp.2.2.1 ha
  have a1 : p1F p a < pn p := inv_lt hp.2.2.2 ha
  have c0 : p0F p c < pn p := inv_lt hp.2.2.1 hc
  have c1 : p1F p c < pn p := inv_lt hp.2.2.2 hc
  refine Con.of (lv := [some (.ref (E.2.1 57)), some (.int (nI a)), some (.int (nI c))]) (by decide +kernel) (Nat.le_of_ble_eq_true rfl) rfl ?_
  refine jg_aload_n dX4_isAbove_0 rfl rfl ?_
  refine jg_iconst (v := 0) dX4_isAbove_1 (by decide) ?_
  refine jg_iload_n dX4_isAbove_2 rfl rfl ?_
  refine jg_callV (c4_placeIn E u 0 (pn p) a (p 6) (by decide) hn (fun i hi => by rw [Nat.zero_add]; exact (hM.2 i hi).2.2.2.1) hp.2.2.1 ha) me_X4_placeIn ml_X4_132 sh_57 rfl rfl (by decide) (by decide) rfl (Nat.le_of_ble_eq_true rfl) dX4_isAbove_3 (kk_I (fun r_3 u_3 h_3 => ?_))
  obtain ⟨rfl, rfl⟩ := h_3
  refine jg_aload_n dX4_isAbove_6 rfl rfl ?_
  refine jg_iconst (v := 0) dX4_isAbove_7 (by decide) ?_
  refine jg_iload_n dX4_isAbove_8 rfl rfl ?_
  refine jg_callV (c4_placeIn E u 0 (pn p) c (p 6) (by decide) hn (fun i hi => by rw [Nat.zero_add]; exact (hM.2 i hi).2.2.2.1) hp.2.2.1 hc) me_X4_placeIn ml_X4_132 sh_57 rfl rfl (by decide) (by decide) rfl (Nat.le_of_ble_eq_true rfl) dX4_isAbove_9 (kk_I (fun r_9 u_9 h_9 => ?_))
  obtain ⟨rfl, rfl⟩ := h_9
  refine jn_icmp_ge (p0F p a) (p0F p c) rfl rfl (by omega) (by omega) 36 dX4_isAbove_12 (by decide) (fun h_12 => ?_) (fun h_12 => ?_)
  · refine jg_iconst (v := 0) dX4_isAbove_36 (by decide) ?_
    exact jg_iret (rfl) dX4_isAbove_37 ⟨_, rfl, ⟨by simp [bI] <;> omega, rfl⟩⟩
  · refine jg_aload_n dX4_isAbove_15 rfl rfl ?_
    refine jg_bipush (v := 6) dX4_isAbove_16 (by decide) ?_
    refine jg_iload_n dX4_isAbove_18 rfl rfl ?_
    refine jg_callV (c4_placeIn E u 6 (pn p) a (p 7) (by decide) hn (fun i hi => (hM.2 i hi).2.2.2.2) hp.2.2.2 ha) me_X4_placeIn ml_X4_132 sh_57 rfl rfl (by decide) (by decide) rfl (Nat.le_of_ble_eq_true rfl) dX4_isAbove_19 (kk_I (fun r_19 u_19 h_19 => ?_))
    obtain ⟨rfl, rfl⟩ := h_19
    refine jg_aload_n dX4_isAbove_22 rfl rfl ?_
    refine jg_bipush (v := 6) dX4_isAbove_23 (by decide) ?_
    refine jg_iload_n dX4_isAbove_25 rfl rfl ?_
    refine jg_callV (c4_placeIn E u 6 (pn p) c (p 7) (by decide) hn (fun i hi => (hM.2 i hi).2.2.2.2) hp.2.2.2 hc) me_X4_placeIn ml_X4_132 sh_57 rfl rfl (by decide) (by decide) rfl (Nat.le_of_ble_eq_true rfl) dX4_isAbove_26 (kk_I (fun r_26 u_26 h_26 => ?_))
    obtain ⟨rfl, rfl⟩ := h_26
    refine jn_icmp_le (p1F p a) (p1F p c) rfl rfl (by omega) (by omega) 36 dX4_isAbove_29 (by decide) (fun h_29 => ?_) (fun h_29 => ?_)
    · refine jg_iconst (v := 0) dX4_isAbove_36 (by decide) ?_
      exact jg_iret (rfl) dX4_isAbove_37 ⟨_, rfl, ⟨by simp [bI] <;> omega, rfl⟩⟩
    · refine jg_iconst (v := 1) dX4_isAbove_32 (by decide) ?_
      refine jg_goto 37 dX4_isAbove_33 (by decide) ?_
      exact jg_iret (rfl) dX4_isAbove_37 ⟨_, rfl, ⟨by simp [bI] <;> omega, rfl⟩⟩
set_option maxHeartbeats 4000000 in
set_option maxRecDepth 20000 in
theorem c4_shareN (E : gT) (u : Mm) (a la b lb : Nat) (ha : a < 1000) (hla : la < 1000) (hb : b < 1000) (hlb : lb < 1000) : Con E yX4_share cX4_share 4 (some .boolean) 0 [.int (nI a), .int (nI la), .int (nI b), .int (nI lb)] u (kI (fun r u2 => r = bI (shareN a la b lb) ∧ u = u2)) := by
  refine Con.of (lv := [some (.int (nI a)), some (.int (nI la)), some (.int (nI b)), some (.int (nI lb))]) (by decide +kernel) (Nat.le_of_ble_eq_true rfl) rfl ?_
  refine jg_iload_n dX4_share_0 rfl rfl ?_
  refine jg_iload_n dX4_share_1 rfl rfl ?_
  refine jg_iload_n dX4_share_2 rfl rfl ?_
  refine jg_iaddE (z := nI (b + lb)) dX4_share_3 (nI_add b lb) ?_
  refine jn_icmp_ge a (b + lb) rfl rfl (by omega) (by omega) 18 dX4_share_4 (by decide) (fun h_4 => ?_) (fun h_4 => ?_)
  · refine jg_iconst (v := 0) dX4_share_18 (by decide) ?_
    exact jg_iret (rfl) dX4_share_19 ⟨_, rfl, ⟨by simp [bI, shareN]; omega, rfl⟩⟩
  · refine jg_iload_n dX4_share_7 rfl rfl ?_
    refine jg_iload_n dX4_share_8 rfl rfl ?_
    refine jg_iload_n dX4_share_9 rfl rfl ?_
    refine jg_iaddE (z := nI (a + la)) dX4_share_10 (nI_add a la) ?_
    refine jn_icmp_ge b (a + la) rfl rfl (by omega) (by omega) 18 dX4_share_11 (by decide) (fun h_11 => ?_) (fun h_11 => ?_)
    · refine jg_iconst (v := 0) dX4_share_18 (by decide) ?_
      exact jg_iret (rfl) dX4_share_19 ⟨_, rfl, ⟨by simp [bI, shareN]; omega, rfl⟩⟩
    · refine jg_iconst (v := 1) dX4_share_14 (by decide) ?_
      refine jg_goto 19 dX4_share_15 (by decide) ?_
      exact jg_iret (rfl) dX4_share_19 ⟨_, rfl, ⟨by simp [bI, shareN]; omega, rfl⟩⟩
set_option maxHeartbeats 4000000 in
set_option maxRecDepth 20000 in
theorem c4_size (E : gT) (u : Mm) (s : Nat) (hs : s < 64) : Con E yX4_size cX4_size 3 (some .int) 0 [.int (nI s)] u (kI (fun r u2 => r = nI (pcN s) ∧ u = u2)) := by
  refine Con.of (lv := [some (.int (nI s)), none, none]) (by decide +kernel) (Nat.le_of_ble_eq_true rfl) rfl ?_
  refine jg_iconst (v := 0) dX4_size_0 (by decide) ?_
  refine jg_istore_n dX4_size_1 rfl (by decide) rfl ?_
  refine jg_iload_n dX4_size_2 rfl rfl ?_
  refine jg_istore_n dX4_size_3 rfl (by decide) rfl ?_
  have cut_4 : ∀ (m t c : Nat), t < m → t < 64 → c + pcN t = pcN s → G E cX4_size 3 (yX4_size).cls (some .int) 0 (kI (fun r u2 => r = nI (pcN s) ∧ u = u2)) 4 [some (.int (nI s)), some (.int (nI c)), some (.int (nI t))] [] u := by
    intro m
    induction m with
    | zero => intro t c h1; omega
    | succ m ih =>
      intro t c hm ht hc
      refine jg_iload_n dX4_size_4 rfl rfl ?_
      refine jg_if_le 21 dX4_size_5 (by decide) (fun h_5 => ?_) (fun h_5 => ?_)
      · obtain rfl : t = 0 := by have := (nI_leI (a := t) (b := 0) (by omega) (by omega)).mp h_5; omega
        refine jg_iload_n dX4_size_21 rfl rfl ?_
        exact jg_iret (rfl) dX4_size_22 ⟨_, rfl, ⟨by rw [← hc]; rfl, rfl⟩⟩
      · have ht0 : t ≠ 0 := fun z => by subst z; exact h_5 (by decide)
        refine jg_iload_n dX4_size_8 rfl rfl ?_
        refine jg_iload_n dX4_size_9 rfl rfl ?_
        refine jg_iconst (v := 1) dX4_size_10 (by decide) ?_
        refine jg_iandE (z := nI (t % 2)) dX4_size_11 (low1 t ht) ?_
        refine jg_iaddE (z := nI (c + (t % 2))) dX4_size_12 (nI_add c (t % 2)) ?_
        refine jg_istore_n dX4_size_13 rfl (by decide) rfl ?_
        refine jg_iload_n dX4_size_14 rfl rfl ?_
        refine jg_iconst (v := 1) dX4_size_15 (by decide) ?_
        refine jg_ishrE (z := nI (t / 2)) dX4_size_16 (half t ht) ?_
        refine jg_istore_n dX4_size_17 rfl (by decide) rfl ?_
        refine jg_goto 4 dX4_size_18 (by decide) ?_
        exact ih (t / 2) (c + t % 2) (by omega) (by omega) (by rw [← hc, pcN_half ht]; omega)
  exact cut_4 (s + 1) s 0 (by omega) hs (Nat.zero_add _)
end
