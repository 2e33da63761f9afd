-- ===== PART A: goes FIRST, ahead of the names: the tables' words, and 'selects' of the private methods out of them =====
/-- a private method of a class that the tables say can be made, by its rows of tables_1 -/
def lw_okq (q : MethodName × Nat) : Prop := (q.1.cls ≠ "java/lang/invoke/MethodHandle" ∧ q.1.cls ≠ "java/lang/invoke/VarHandle") ∧ Cond.instantiable q.1.cls q.2 ∈ tables_1 ∧ Cond.privateMethod q.1 ∈ tables_1 ∧ Cond.instanceMethod q.1 ∈ tables_1
theorem lw_p0 : lw_okq (⟨"WardrobeKeeper", "countBottomsFor", "(I)I"⟩, 12) := ⟨⟨by decide +kernel, by decide +kernel⟩, List.mem_of_getElem? (i := 11) (by decide +kernel), List.mem_of_getElem? (i := 71) (by decide +kernel), List.mem_of_getElem? (i := 72) (by decide +kernel)⟩
theorem lw_p1 : lw_okq (⟨"WardrobeKeeper", "isCleanOfKind", "(II)Z"⟩, 12) := ⟨⟨by decide +kernel, by decide +kernel⟩, List.mem_of_getElem? (i := 11) (by decide +kernel), List.mem_of_getElem? (i := 75) (by decide +kernel), List.mem_of_getElem? (i := 76) (by decide +kernel)⟩
theorem lw_p2 : lw_okq (⟨"WardrobeKeeper", "isThing", "(I)Z"⟩, 12) := ⟨⟨by decide +kernel, by decide +kernel⟩, List.mem_of_getElem? (i := 11) (by decide +kernel), List.mem_of_getElem? (i := 79) (by decide +kernel), List.mem_of_getElem? (i := 80) (by decide +kernel)⟩
theorem lw_p3 : lw_okq (⟨"WardrobeKeeper", "coloursClash", "(II)Z"⟩, 12) := ⟨⟨by decide +kernel, by decide +kernel⟩, List.mem_of_getElem? (i := 11) (by decide +kernel), List.mem_of_getElem? (i := 83) (by decide +kernel), List.mem_of_getElem? (i := 84) (by decide +kernel)⟩
theorem lw_p4 : lw_okq (⟨"java/lang/Throwable", "fillInStackTrace", "(I)Ljava/lang/Throwable;"⟩, 6) := ⟨⟨by decide +kernel, by decide +kernel⟩, List.mem_of_getElem? (i := 146) (by decide +kernel), List.mem_of_getElem? (i := 144) (by decide +kernel), List.mem_of_getElem? (i := 145) (by decide +kernel)⟩
theorem lw_p5 : lw_okq (⟨"WardrobeKeeper", "areThings", "(III)Z"⟩, 12) := ⟨⟨by decide +kernel, by decide +kernel⟩, List.mem_of_getElem? (i := 11) (by decide +kernel), List.mem_of_getElem? (i := 239) (by decide +kernel), List.mem_of_getElem? (i := 240) (by decide +kernel)⟩
theorem lw_p6 : lw_okq (⟨"WardrobeKeeper", "areOfTheirKinds", "(III)Z"⟩, 12) := ⟨⟨by decide +kernel, by decide +kernel⟩, List.mem_of_getElem? (i := 11) (by decide +kernel), List.mem_of_getElem? (i := 243) (by decide +kernel), List.mem_of_getElem? (i := 244) (by decide +kernel)⟩
theorem lw_p7 : lw_okq (⟨"WardrobeKeeper", "isOfKind", "(II)Z"⟩, 12) := ⟨⟨by decide +kernel, by decide +kernel⟩, List.mem_of_getElem? (i := 11) (by decide +kernel), List.mem_of_getElem? (i := 247) (by decide +kernel), List.mem_of_getElem? (i := 248) (by decide +kernel)⟩
theorem lw_p8 : lw_okq (⟨"WardrobeKeeper", "canBeWorn", "(III)Z"⟩, 12) := ⟨⟨by decide +kernel, by decide +kernel⟩, List.mem_of_getElem? (i := 11) (by decide +kernel), List.mem_of_getElem? (i := 252) (by decide +kernel), List.mem_of_getElem? (i := 253) (by decide +kernel)⟩
theorem lw_p9 : lw_okq (⟨"WardrobeKeeper", "doClash", "(II)Z"⟩, 12) := ⟨⟨by decide +kernel, by decide +kernel⟩, List.mem_of_getElem? (i := 11) (by decide +kernel), List.mem_of_getElem? (i := 256) (by decide +kernel), List.mem_of_getElem? (i := 257) (by decide +kernel)⟩
theorem lw_p10 : lw_okq (⟨"WardrobeKeeper", "fitsOver", "(III)Z"⟩, 12) := ⟨⟨by decide +kernel, by decide +kernel⟩, List.mem_of_getElem? (i := 11) (by decide +kernel), List.mem_of_getElem? (i := 260) (by decide +kernel), List.mem_of_getElem? (i := 261) (by decide +kernel)⟩
theorem lw_p11 : lw_okq (⟨"WardrobeKeeper", "wasSeenLately", "(III)Z"⟩, 12) := ⟨⟨by decide +kernel, by decide +kernel⟩, List.mem_of_getElem? (i := 11) (by decide +kernel), List.mem_of_getElem? (i := 275) (by decide +kernel), List.mem_of_getElem? (i := 276) (by decide +kernel)⟩
theorem lw_p12 : lw_okq (⟨"WardrobeKeeper", "wearOnce", "(I)V"⟩, 12) := ⟨⟨by decide +kernel, by decide +kernel⟩, List.mem_of_getElem? (i := 11) (by decide +kernel), List.mem_of_getElem? (i := 290) (by decide +kernel), List.mem_of_getElem? (i := 291) (by decide +kernel)⟩
theorem lw_p13 : lw_okq (⟨"WardrobeKeeper", "wearsLeftOf", "(I)I"⟩, 12) := ⟨⟨by decide +kernel, by decide +kernel⟩, List.mem_of_getElem? (i := 11) (by decide +kernel), List.mem_of_getElem? (i := 294) (by decide +kernel), List.mem_of_getElem? (i := 295) (by decide +kernel)⟩
theorem lw_p14 : lw_okq (⟨"WardrobeKeeper", "showTo", "(III)V"⟩, 12) := ⟨⟨by decide +kernel, by decide +kernel⟩, List.mem_of_getElem? (i := 11) (by decide +kernel), List.mem_of_getElem? (i := 298) (by decide +kernel), List.mem_of_getElem? (i := 299) (by decide +kernel)⟩
theorem lw_p15 : lw_okq (⟨"WardrobeKeeper", "outfitWarmth", "(III)I"⟩, 12) := ⟨⟨by decide +kernel, by decide +kernel⟩, List.mem_of_getElem? (i := 11) (by decide +kernel), List.mem_of_getElem? (i := 302) (by decide +kernel), List.mem_of_getElem? (i := 303) (by decide +kernel)⟩
def lw_privs_1 : List (MethodName × Nat) := [(⟨"WardrobeKeeper", "countBottomsFor", "(I)I"⟩, 12), (⟨"WardrobeKeeper", "isCleanOfKind", "(II)Z"⟩, 12), (⟨"WardrobeKeeper", "isThing", "(I)Z"⟩, 12), (⟨"WardrobeKeeper", "coloursClash", "(II)Z"⟩, 12), (⟨"java/lang/Throwable", "fillInStackTrace", "(I)Ljava/lang/Throwable;"⟩, 6), (⟨"WardrobeKeeper", "areThings", "(III)Z"⟩, 12), (⟨"WardrobeKeeper", "areOfTheirKinds", "(III)Z"⟩, 12), (⟨"WardrobeKeeper", "isOfKind", "(II)Z"⟩, 12), (⟨"WardrobeKeeper", "canBeWorn", "(III)Z"⟩, 12), (⟨"WardrobeKeeper", "doClash", "(II)Z"⟩, 12), (⟨"WardrobeKeeper", "fitsOver", "(III)Z"⟩, 12), (⟨"WardrobeKeeper", "wasSeenLately", "(III)Z"⟩, 12), (⟨"WardrobeKeeper", "wearOnce", "(I)V"⟩, 12), (⟨"WardrobeKeeper", "wearsLeftOf", "(I)I"⟩, 12), (⟨"WardrobeKeeper", "showTo", "(III)V"⟩, 12), (⟨"WardrobeKeeper", "outfitWarmth", "(III)I"⟩, 12)]
theorem lw_r1 : ∀ q ∈ lw_privs_1, lw_okq q := List.forall_mem_cons.mpr ⟨lw_p0, List.forall_mem_cons.mpr ⟨lw_p1, List.forall_mem_cons.mpr ⟨lw_p2, List.forall_mem_cons.mpr ⟨lw_p3, List.forall_mem_cons.mpr ⟨lw_p4, List.forall_mem_cons.mpr ⟨lw_p5, List.forall_mem_cons.mpr ⟨lw_p6, List.forall_mem_cons.mpr ⟨lw_p7, List.forall_mem_cons.mpr ⟨lw_p8, List.forall_mem_cons.mpr ⟨lw_p9, List.forall_mem_cons.mpr ⟨lw_p10, List.forall_mem_cons.mpr ⟨lw_p11, List.forall_mem_cons.mpr ⟨lw_p12, List.forall_mem_cons.mpr ⟨lw_p13, List.forall_mem_cons.mpr ⟨lw_p14, List.forall_mem_cons.mpr ⟨lw_p15, fun _ h => absurd h List.not_mem_nil⟩⟩⟩⟩⟩⟩⟩⟩⟩⟩⟩⟩⟩⟩⟩⟩
theorem lw_p16 : lw_okq (⟨"WardrobeKeeper", "warmthOf", "(I)I"⟩, 12) := ⟨⟨by decide +kernel, by decide +kernel⟩, List.mem_of_getElem? (i := 11) (by decide +kernel), List.mem_of_getElem? (i := 306) (by decide +kernel), List.mem_of_getElem? (i := 307) (by decide +kernel)⟩
theorem lw_p17 : lw_okq (⟨"WardrobeKeeper", "countOutfitsOf", "(III)I"⟩, 12) := ⟨⟨by decide +kernel, by decide +kernel⟩, List.mem_of_getElem? (i := 11) (by decide +kernel), List.mem_of_getElem? (i := 321) (by decide +kernel), List.mem_of_getElem? (i := 322) (by decide +kernel)⟩
theorem lw_p18 : lw_okq (⟨"WardrobeKeeper", "isWarmOutfit", "(IIII)Z"⟩, 12) := ⟨⟨by decide +kernel, by decide +kernel⟩, List.mem_of_getElem? (i := 11) (by decide +kernel), List.mem_of_getElem? (i := 325) (by decide +kernel), List.mem_of_getElem? (i := 326) (by decide +kernel)⟩
theorem lw_p19 : lw_okq (⟨"WardrobeKeeper", "isWashedWith", "(IIZ)Z"⟩, 12) := ⟨⟨by decide +kernel, by decide +kernel⟩, List.mem_of_getElem? (i := 11) (by decide +kernel), List.mem_of_getElem? (i := 352) (by decide +kernel), List.mem_of_getElem? (i := 353) (by decide +kernel)⟩
theorem lw_p20 : lw_okq (⟨"WardrobeKeeper", "nextToWash", "(IZ)I"⟩, 12) := ⟨⟨by decide +kernel, by decide +kernel⟩, List.mem_of_getElem? (i := 11) (by decide +kernel), List.mem_of_getElem? (i := 363) (by decide +kernel), List.mem_of_getElem? (i := 364) (by decide +kernel)⟩
theorem lw_p21 : lw_okq (⟨"WardrobeKeeper", "makeClean", "(I)V"⟩, 12) := ⟨⟨by decide +kernel, by decide +kernel⟩, List.mem_of_getElem? (i := 11) (by decide +kernel), List.mem_of_getElem? (i := 367) (by decide +kernel), List.mem_of_getElem? (i := 368) (by decide +kernel)⟩
theorem lw_p22 : lw_okq (⟨"WardrobeKeeper", "findPartners", "(I)V"⟩, 12) := ⟨⟨by decide +kernel, by decide +kernel⟩, List.mem_of_getElem? (i := 11) (by decide +kernel), List.mem_of_getElem? (i := 391) (by decide +kernel), List.mem_of_getElem? (i := 392) (by decide +kernel)⟩
theorem lw_p23 : lw_okq (⟨"WardrobeKeeper", "arePartners", "(III)Z"⟩, 12) := ⟨⟨by decide +kernel, by decide +kernel⟩, List.mem_of_getElem? (i := 11) (by decide +kernel), List.mem_of_getElem? (i := 395) (by decide +kernel), List.mem_of_getElem? (i := 396) (by decide +kernel)⟩
theorem lw_p24 : lw_okq (⟨"WardrobeKeeper", "thingsOfKind", "(I)I"⟩, 12) := ⟨⟨by decide +kernel, by decide +kernel⟩, List.mem_of_getElem? (i := 11) (by decide +kernel), List.mem_of_getElem? (i := 399) (by decide +kernel), List.mem_of_getElem? (i := 400) (by decide +kernel)⟩
theorem lw_p25 : lw_okq (⟨"WardrobeKeeper", "lasts", "(III)Z"⟩, 12) := ⟨⟨by decide +kernel, by decide +kernel⟩, List.mem_of_getElem? (i := 11) (by decide +kernel), List.mem_of_getElem? (i := 403) (by decide +kernel), List.mem_of_getElem? (i := 404) (by decide +kernel)⟩
theorem lw_p26 : lw_okq (⟨"WardrobeKeeper", "wearsLeftIn", "(I)I"⟩, 12) := ⟨⟨by decide +kernel, by decide +kernel⟩, List.mem_of_getElem? (i := 11) (by decide +kernel), List.mem_of_getElem? (i := 407) (by decide +kernel), List.mem_of_getElem? (i := 408) (by decide +kernel)⟩
theorem lw_p27 : lw_okq (⟨"WardrobeKeeper", "partnersOf", "(I)I"⟩, 12) := ⟨⟨by decide +kernel, by decide +kernel⟩, List.mem_of_getElem? (i := 11) (by decide +kernel), List.mem_of_getElem? (i := 411) (by decide +kernel), List.mem_of_getElem? (i := 412) (by decide +kernel)⟩
theorem lw_p28 : lw_okq (⟨"WardrobeKeeper", "usefulThings", "()I"⟩, 12) := ⟨⟨by decide +kernel, by decide +kernel⟩, List.mem_of_getElem? (i := 11) (by decide +kernel), List.mem_of_getElem? (i := 426) (by decide +kernel), List.mem_of_getElem? (i := 427) (by decide +kernel)⟩
theorem lw_p29 : lw_okq (⟨"WardrobeKeeperModel", "goes", "(I)Z"⟩, 13) := ⟨⟨by decide +kernel, by decide +kernel⟩, List.mem_of_getElem? (i := 430) (by decide +kernel), List.mem_of_getElem? (i := 494) (by decide +kernel), List.mem_of_getElem? (i := 495) (by decide +kernel)⟩
theorem lw_p30 : lw_okq (⟨"WardrobeKeeperModel", "isThing", "(I)Z"⟩, 13) := ⟨⟨by decide +kernel, by decide +kernel⟩, List.mem_of_getElem? (i := 430) (by decide +kernel), List.mem_of_getElem? (i := 502) (by decide +kernel), List.mem_of_getElem? (i := 503) (by decide +kernel)⟩
theorem lw_p31 : lw_okq (⟨"WardrobeKeeperModel", "here", "()I"⟩, 13) := ⟨⟨by decide +kernel, by decide +kernel⟩, List.mem_of_getElem? (i := 430) (by decide +kernel), List.mem_of_getElem? (i := 506) (by decide +kernel), List.mem_of_getElem? (i := 507) (by decide +kernel)⟩
def lw_privs_2 : List (MethodName × Nat) := [(⟨"WardrobeKeeper", "warmthOf", "(I)I"⟩, 12), (⟨"WardrobeKeeper", "countOutfitsOf", "(III)I"⟩, 12), (⟨"WardrobeKeeper", "isWarmOutfit", "(IIII)Z"⟩, 12), (⟨"WardrobeKeeper", "isWashedWith", "(IIZ)Z"⟩, 12), (⟨"WardrobeKeeper", "nextToWash", "(IZ)I"⟩, 12), (⟨"WardrobeKeeper", "makeClean", "(I)V"⟩, 12), (⟨"WardrobeKeeper", "findPartners", "(I)V"⟩, 12), (⟨"WardrobeKeeper", "arePartners", "(III)Z"⟩, 12), (⟨"WardrobeKeeper", "thingsOfKind", "(I)I"⟩, 12), (⟨"WardrobeKeeper", "lasts", "(III)Z"⟩, 12), (⟨"WardrobeKeeper", "wearsLeftIn", "(I)I"⟩, 12), (⟨"WardrobeKeeper", "partnersOf", "(I)I"⟩, 12), (⟨"WardrobeKeeper", "usefulThings", "()I"⟩, 12), (⟨"WardrobeKeeperModel", "goes", "(I)Z"⟩, 13), (⟨"WardrobeKeeperModel", "isThing", "(I)Z"⟩, 13), (⟨"WardrobeKeeperModel", "here", "()I"⟩, 13)]
theorem lw_r2 : ∀ q ∈ lw_privs_2, lw_okq q := List.forall_mem_cons.mpr ⟨lw_p16, List.forall_mem_cons.mpr ⟨lw_p17, List.forall_mem_cons.mpr ⟨lw_p18, List.forall_mem_cons.mpr ⟨lw_p19, List.forall_mem_cons.mpr ⟨lw_p20, List.forall_mem_cons.mpr ⟨lw_p21, List.forall_mem_cons.mpr ⟨lw_p22, List.forall_mem_cons.mpr ⟨lw_p23, List.forall_mem_cons.mpr ⟨lw_p24, List.forall_mem_cons.mpr ⟨lw_p25, List.forall_mem_cons.mpr ⟨lw_p26, List.forall_mem_cons.mpr ⟨lw_p27, List.forall_mem_cons.mpr ⟨lw_p28, List.forall_mem_cons.mpr ⟨lw_p29, List.forall_mem_cons.mpr ⟨lw_p30, List.forall_mem_cons.mpr ⟨lw_p31, fun _ h => absurd h List.not_mem_nil⟩⟩⟩⟩⟩⟩⟩⟩⟩⟩⟩⟩⟩⟩⟩⟩
theorem lw_p32 : lw_okq (⟨"WardrobeKeeperModel", "wrong", "(III)I"⟩, 13) := ⟨⟨by decide +kernel, by decide +kernel⟩, List.mem_of_getElem? (i := 430) (by decide +kernel), List.mem_of_getElem? (i := 526) (by decide +kernel), List.mem_of_getElem? (i := 527) (by decide +kernel)⟩
theorem lw_p33 : lw_okq (⟨"WardrobeKeeperModel", "fits", "(III)Z"⟩, 13) := ⟨⟨by decide +kernel, by decide +kernel⟩, List.mem_of_getElem? (i := 430) (by decide +kernel), List.mem_of_getElem? (i := 530) (by decide +kernel), List.mem_of_getElem? (i := 531) (by decide +kernel)⟩
theorem lw_p34 : lw_okq (⟨"WardrobeKeeperModel", "doClash", "(II)Z"⟩, 13) := ⟨⟨by decide +kernel, by decide +kernel⟩, List.mem_of_getElem? (i := 430) (by decide +kernel), List.mem_of_getElem? (i := 534) (by decide +kernel), List.mem_of_getElem? (i := 535) (by decide +kernel)⟩
theorem lw_p35 : lw_okq (⟨"WardrobeKeeperModel", "isSoon", "(III)Z"⟩, 13) := ⟨⟨by decide +kernel, by decide +kernel⟩, List.mem_of_getElem? (i := 430) (by decide +kernel), List.mem_of_getElem? (i := 545) (by decide +kernel), List.mem_of_getElem? (i := 546) (by decide +kernel)⟩
theorem lw_p36 : lw_okq (⟨"WardrobeKeeperModel", "warmthOf", "(III)I"⟩, 13) := ⟨⟨by decide +kernel, by decide +kernel⟩, List.mem_of_getElem? (i := 430) (by decide +kernel), List.mem_of_getElem? (i := 553) (by decide +kernel), List.mem_of_getElem? (i := 554) (by decide +kernel)⟩
theorem lw_p37 : lw_okq (⟨"WardrobeKeeperModel", "count", "(II)I"⟩, 13) := ⟨⟨by decide +kernel, by decide +kernel⟩, List.mem_of_getElem? (i := 430) (by decide +kernel), List.mem_of_getElem? (i := 561) (by decide +kernel), List.mem_of_getElem? (i := 562) (by decide +kernel)⟩
theorem lw_p38 : lw_okq (⟨"WardrobeKeeperModel", "isOf", "(IIZ)Z"⟩, 13) := ⟨⟨by decide +kernel, by decide +kernel⟩, List.mem_of_getElem? (i := 430) (by decide +kernel), List.mem_of_getElem? (i := 581) (by decide +kernel), List.mem_of_getElem? (i := 582) (by decide +kernel)⟩
theorem lw_p39 : lw_okq (⟨"WardrobeKeeperModel", "setOf", "(I)I"⟩, 13) := ⟨⟨by decide +kernel, by decide +kernel⟩, List.mem_of_getElem? (i := 430) (by decide +kernel), List.mem_of_getElem? (i := 597) (by decide +kernel), List.mem_of_getElem? (i := 598) (by decide +kernel)⟩
theorem lw_p40 : lw_okq (⟨"WardrobeKeeperModel", "laysPairs", "(I)V"⟩, 13) := ⟨⟨by decide +kernel, by decide +kernel⟩, List.mem_of_getElem? (i := 430) (by decide +kernel), List.mem_of_getElem? (i := 601) (by decide +kernel), List.mem_of_getElem? (i := 602) (by decide +kernel)⟩
theorem lw_p41 : lw_okq (⟨"WardrobeKeeperModel", "daysOf", "(III)I"⟩, 13) := ⟨⟨by decide +kernel, by decide +kernel⟩, List.mem_of_getElem? (i := 430) (by decide +kernel), List.mem_of_getElem? (i := 605) (by decide +kernel), List.mem_of_getElem? (i := 606) (by decide +kernel)⟩
theorem lw_p42 : lw_okq (⟨"WardrobeKeeperModel", "worn", "(I)I"⟩, 13) := ⟨⟨by decide +kernel, by decide +kernel⟩, List.mem_of_getElem? (i := 430) (by decide +kernel), List.mem_of_getElem? (i := 609) (by decide +kernel), List.mem_of_getElem? (i := 610) (by decide +kernel)⟩
def lw_privs_3 : List (MethodName × Nat) := [(⟨"WardrobeKeeperModel", "wrong", "(III)I"⟩, 13), (⟨"WardrobeKeeperModel", "fits", "(III)Z"⟩, 13), (⟨"WardrobeKeeperModel", "doClash", "(II)Z"⟩, 13), (⟨"WardrobeKeeperModel", "isSoon", "(III)Z"⟩, 13), (⟨"WardrobeKeeperModel", "warmthOf", "(III)I"⟩, 13), (⟨"WardrobeKeeperModel", "count", "(II)I"⟩, 13), (⟨"WardrobeKeeperModel", "isOf", "(IIZ)Z"⟩, 13), (⟨"WardrobeKeeperModel", "setOf", "(I)I"⟩, 13), (⟨"WardrobeKeeperModel", "laysPairs", "(I)V"⟩, 13), (⟨"WardrobeKeeperModel", "daysOf", "(III)I"⟩, 13), (⟨"WardrobeKeeperModel", "worn", "(I)I"⟩, 13)]
theorem lw_r3 : ∀ q ∈ lw_privs_3, lw_okq q := List.forall_mem_cons.mpr ⟨lw_p32, List.forall_mem_cons.mpr ⟨lw_p33, List.forall_mem_cons.mpr ⟨lw_p34, List.forall_mem_cons.mpr ⟨lw_p35, List.forall_mem_cons.mpr ⟨lw_p36, List.forall_mem_cons.mpr ⟨lw_p37, List.forall_mem_cons.mpr ⟨lw_p38, List.forall_mem_cons.mpr ⟨lw_p39, List.forall_mem_cons.mpr ⟨lw_p40, List.forall_mem_cons.mpr ⟨lw_p41, List.forall_mem_cons.mpr ⟨lw_p42, fun _ h => absurd h List.not_mem_nil⟩⟩⟩⟩⟩⟩⟩⟩⟩⟩⟩
def lw_privs : List (MethodName × Nat) := lw_privs_1 ++ (lw_privs_2 ++ (lw_privs_3))
def lw_tbl : List Cond := k2_sels lw_privs ++ tables_1
theorem lw_privs_ok : ∀ q ∈ lw_privs, lw_okq q := by
  show ∀ q ∈ lw_privs_1 ++ (lw_privs_2 ++ (lw_privs_3)), lw_okq q
  exact List.forall_mem_append.mpr ⟨lw_r1, List.forall_mem_append.mpr ⟨lw_r2, lw_r3⟩⟩
/-! ===== BEGIN words of one list among another's, by their places ===== -/
theorem goodIn_r {big : List Cond} (ws : List Cond) (ps : List Nat) (hp : ws = ps.filterMap (fun i => big[i]?)) (h : ws.all goodWord = true) : GoodIn big ws := by
  intro w hw
  have h1 := List.all_eq_true.mp h w hw
  rw [hp] at hw
  obtain ⟨i, -, hi⟩ := List.mem_filterMap.mp hw
  have hm : w ∈ big := by first | exact List.mem_of_getElem? hi | exact List.getElem?_mem hi
  exact ⟨hm, good_of_word h1⟩
theorem goodIn_app {big a b : List Cond} (ha : GoodIn big a) (hb : GoodIn big b) : GoodIn big (a ++ b) := fun w h => (List.mem_append.mp h).elim (ha w) (hb w)
theorem goodIn_ca {big a b : List Cond} {c : Cond} (ha : GoodIn big (c :: a)) (hb : GoodIn big b) : GoodIn big (c :: (a ++ b)) := fun w h => (List.mem_cons.mp h).elim (fun e => ha w (List.mem_cons.mpr (Or.inl e))) (fun h => (List.mem_append.mp h).elim (fun h => ha w (List.mem_cons.mpr (Or.inr h))) (hb w))
theorem goodIn_sub {big ws : List Cond} (hm : ∀ w ∈ ws, w ∈ big) (h : ws.all goodWord = true) : GoodIn big ws := fun w hw => ⟨hm w hw, good_of_word (List.all_eq_true.mp h w hw)⟩
/-! ===== END ===== -/

/-! ===== BEGIN exceptions that leave a method, and their catching by the caller (launches without stack traces) ===== -/
section VXA
/-! The laws vx_back, vx_callV, vx_callS, vx_callSW, vx_throw0, vx_throwS follow proofs of the library, with one case more: JvmDerived/Free/Laws.lean (Back.of_free), Shelf42/LK1.lean (callV, callS), Shelf/KitTraced.lean (throwNew0V, throwNewS). -/
/-- where a method has thrown q: the class by its name, the cell, what was written, the world -/
def vx_T (XC : String → State → State → Prop) (st : State) (q : Addr) (t : State) (mc ms : Nat) (free : Addr → Prop) : Prop :=
  ∃ (E : String) (ce : Cell) (L : List Loc), XC E st t ∧ t.heap[q]? = some ce ∧ ce.vm = .none ∧ st.vm.findClass E = some ce.cls ∧ st.WarmedH t.vm ∧ st.sameButNew ({ t with vm := st.vm } : State) L mc ms ∧ ∀ z ∈ L, free z.base
def vx_Q (Qc : Array Value → State → Outcome → State → Prop) (XC : String → State → State → Prop) (mc ms : Nat) (free : Addr → Prop) : Array Value → State → Outcome → State → Prop := fun a st o t =>
  (Qc a st o t ∧ ∃ L, FrameEnd st o t L mc ms ∧ ∀ q ∈ L, free q.base) ∨ ∃ q, o = .threw q ∧ vx_T XC st q t mc ms free
/-- a callee that returns or throws -/
def vx_Met (l : Launch) (y : MethodName) (ws : List Cond) (rm : Room) (Pc : Array Value → State → Prop) (Qc : Array Value → State → Outcome → State → Prop) (XC : String → State → State → Prop) (mc ms : Nat) (free : Addr → Prop) : Prop :=
  MetFree l y (headSpec ws rm) Pc (fun _ _ _ _ _ => True) (vx_Q Qc XC mc ms free)
def vx_Post (XC : String → State → State → Prop) (mc ms : Nat) (free : Addr → Prop) : Pt → Array Value → Addr → Pt → Prop := fun A a q B =>
  ∃ (g : JFrame) (mk : MethodId) (t : State) (L : List Loc) (E : String) (ce : Cell), B.U.heap = t.heap ∧ B.U.vm = t.vm ∧ XC E (A.U.calling g mk a) t ∧ t.heap[q]? = some ce ∧ ce.vm = .none ∧ A.U.vm.findClass E = some ce.cls ∧ B.locs = A.locs ++ L ∧ (∀ z ∈ L, free z.base) ∧ B.cells = A.cells + mc ∧ B.slots = A.slots + ms
def vx_Back (l : Launch) (R : Room) (p : Program) (e : Env) (below : List Frame) (s : State) (sargs : Array Value) (y : MethodName) (len W9 : Nat)
    (Pre : Pt → Array Value → Prop) (Post : Pt → Array Value → Option Value → Pt → Prop) (PostX : Pt → Array Value → Addr → Pt → Prop) : Prop :=
  ∀ (m : MethodId) (meth : Method) (c : Code) (A : Pt) (g : JFrame) (ig : Instr) (mk : MethodId) (a : Array Value),
    Stand p l e R s m sargs below meth c A.U A.locs A.cells A.slots → g.method = m → g.locals.size = c.maxLocals → decode c.code g.pc = .ok (ig, len) →
    2 * g.monitorRoom + (g.stack.map fun v => v.category).sum ≤ W9 → A.U.methodNamed? y = some mk → Pre A a →
    (∃ (v : Option Value) (B : Pt), Stand p l e R s m sargs below meth c B.U B.locs B.cells B.slots ∧ Post A a v B ∧
      Steps p.tables e below (doInvoke e (A.U.setTop g) [] mk a).1 (B.U.setTop { g with pc := g.pc + len, stack := v.toList ++ g.stack })) ∨
    (∃ (q : Addr) (B : Pt), Stand p l e R s m sargs below meth c B.U B.locs B.cells B.slots ∧ PostX A a q B ∧
      Steps p.tables e below (doInvoke e (A.U.setTop g) [] mk a).1 ((B.U.setTop g).pushFrame (.throwing q)))
section Payer
variable {l : Launch} {R : Room} {p : Program} {e : Env} {below : List Frame} {s : State} {sargs : Array Value} {y : MethodName} {len W9 : Nat}
theorem vx_back {ws : List Cond} {rm : Room} {Pc : Array Value → State → Prop} {Qc : Array Value → State → Outcome → State → Prop} {XC : String → State → State → Prop} {mc ms : Nat} {free : Addr → Prop} {bytes : ByteArray} {maxL : Nat} {ret : Option FieldType}
    (hM : vx_Met l y ws rm Pc Qc XC mc ms free) (hblind : FrameBlind Pc) (hrc : rm.cells = mc) (hrs : rm.slots = ms)
    (hframes : rm.frames + 1 ≤ R.frames) (hlocals : W9 + (maxL + 11) + rm.locals ≤ R.locals)
    (hws : ∀ w ∈ ws, ∀ a' U, s.WarmedH U.vm → w.before a' U = true) (hcode : Cond.code y bytes maxL ret ∈ ws) (hinit : ∀ a' U, s.WarmedH U.vm → (Cond.initialized y.cls).before a' U = true) :
    vx_Back l R p e below s sargs y len W9 (PreOf R mc ms Pc) (PostOf Qc mc ms free) (vx_Post XC mc ms free) := by
  intro m meth c A g ig mk a X hg hsize hdg hW hn hp
  have h1 : (headSpec ws rm).pre.before a A.U = true := atoms_intro fun w hw => hws w hw _ _ X.warmed
  have h2 : (Cond.code y bytes maxL ret).before a A.U = true := hws _ hcode _ _ X.warmed
  have h3 : (Cond.initialized y.cls).before a A.U = true := hinit _ _ X.warmed
  have h4 : A.cells + (headSpec ws rm).room.cells ≤ R.cells := by rw [show (headSpec ws rm).room.cells = mc from hrc]; exact hp.1
  have h5 : A.slots + (headSpec ws rm).room.slots ≤ R.slots := by rw [show (headSpec ws rm).room.slots = ms from hrs]; exact hp.2.1
  have hPc : Pc a (A.U.calling g mk a) := hblind _ _ _ _ hp.2.2
  obtain ⟨U, Ls, c0, s0⟩ := A
  dsimp only [Pt.U, Pt.locs, Pt.cells, Pt.slots] at h1 h2 h3 h4 h5 X hn hPc ⊢
  obtain ⟨methY, cY, hmY, hcY, -, hlY, -, -, -, -⟩ := Cond.code_spec hn h2
  obtain ⟨kY, hkY, -⟩ := className_of_methodNamed hn
  have hinitY : kY.init = .initialized := Cond.initialized_spec (findClass_of_methodNamed hn) hkY h3
  have h : At U g.method c below := by rw [hg]; exact X.here
  have hlocals9 : W9 + (maxL + 11) + (headSpec ws rm).room.locals ≤ R.locals := hlocals
  have happ : (headSpec ws rm).appliesLoose y e.platform (U.calling g mk a) = true :=
    Spec.appliesLoose_calling (g := g) h hdg hn hkY hinitY
      (X.room_calling (g := g) (R' := (headSpec ws rm).room) hsize hmY hcY hframes (by rw [hlY]; omega) h4 h5) h1
  obtain ⟨mid, hmid⟩ := h.above
  have hfr : (U.setTop g).frames = (.java g :: mid) ++ below := by rw [State.frames_setTop' g h.top, hmid]; rfl
  obtain ⟨o, s₂, hsteps, -, hend, hq⟩ := Steps.callFree hM p X.admits X.cas X.clock (acts := []) hfr happ hPc trivial
  have hq' : vx_Q Qc XC mc ms free a (U.calling g mk a) o s₂ := hq
  rw [State.frames_setTop' g h.top] at hend
  obtain ⟨g₀, hg0⟩ := Option.isSome_iff_exists.mp h.top
  obtain ⟨r, hr⟩ := State.topJava?_eq_some.mp hg0
  have hr' : (({ U with heap := s₂.heap, slotsUsed := s₂.slotsUsed } : State).setVm s₂.vm).frames = .java g₀ :: r := hr
  rcases hq' with ⟨hqc, L, hfe, hL⟩ | ⟨q, rfl, E, ce, L, hx, hce, hcv, hcl, hW₂, hsm, hL⟩
  · obtain ⟨⟨v, rfl⟩, hW₂, e2, q2, q3, q4, q5, q6⟩ := id hfe
    have e3 : s₂ = ({ (U.calling g mk a).setFrames s₂.frames with heap := s₂.heap, slotsUsed := s₂.slotsUsed } : State).setVm s₂.vm := by
      have : s₂ = ({ s₂ with vm := (U.calling g mk a).vm } : State).setVm s₂.vm := rfl
      rw [e2] at this
      exact this
    obtain ⟨c₂, i₂, len₂, hc₂, hd₂, hf₂⟩ := hend
    have hW' : U.WarmedH s₂.vm := hW₂
    have hcc : c₂ = c := by
      have h1 : s₂.code? g.method = U.code? g.method := by
        rw [State.code?_eq, State.code?_eq, hW'.alike.method?]
      exact Option.some.inj (hc₂.symm.trans (h1.trans h.code))
    subst hcc
    have hlen : len₂ = len := by rw [hdg] at hd₂; cases hd₂; rfl
    subst hlen
    have hs₂ : s₂ = (({ U with heap := s₂.heap, slotsUsed := s₂.slotsUsed } : State).setVm s₂.vm).setTop { g with pc := g.pc + len₂, stack := v.toList ++ g.stack } := by
      refine e3.trans ?_
      rw [hf₂, State.calling_eq h.top, State.setFrames_setFrames, State.setTop_of_frames _ hr', hr]
      rfl
    have hsame : U.sameButNew ({ U with heap := s₂.heap, slotsUsed := s₂.slotsUsed } : State) L mc ms := by
      refine ⟨?_, q2, q3, q4, q5, q6⟩
      obtain ⟨t, ht, -⟩ := State.frames_cons hr
      show ({ U with heap := s₂.heap, slotsUsed := s₂.slotsUsed } : State) = { U.setFrames U.frames with heap := s₂.heap, slotsUsed := s₂.slotsUsed }
      rw [State.setFrames_self ht]
    subst hg
    refine Or.inl ⟨v, ⟨(({ U with heap := s₂.heap, slotsUsed := s₂.slotsUsed } : State).setVm s₂.vm), Ls ++ L, c0 + mc, s0 + ms⟩,
      ⟨X.admits, X.cas, X.clock, X.frames, X.room, X.hears, X.method, X.code, (X.here.setHeapUsed s₂.heap s₂.slotsUsed).setVm hW'.alike, X.tail, State.WarmedH.trans X.warmed hW', X.limits, X.bytes, X.same.trans (hsame.setVm s.vm)⟩,
      ⟨g, mk, s₂, L, rfl, rfl, hqc, rfl, hL, rfl, rfl⟩, ?_⟩
    show Steps p.tables e below _ ((({ U with heap := s₂.heap, slotsUsed := s₂.slotsUsed } : State).setVm s₂.vm).setTop { g with pc := g.pc + len₂, stack := v.toList ++ g.stack })
    rw [← hs₂]
    exact hsteps
  · obtain ⟨e2, q2, q3, q4, q5, q6⟩ := id hsm
    have e3 : s₂ = ({ (U.calling g mk a).setFrames s₂.frames with heap := s₂.heap, slotsUsed := s₂.slotsUsed } : State).setVm s₂.vm := by
      have : s₂ = ({ s₂ with vm := (U.calling g mk a).vm } : State).setVm s₂.vm := rfl
      rw [e2] at this
      exact this
    have hf₂ : s₂.frames = .throwing q :: .java g :: U.frames.tail := hend
    have hW' : U.WarmedH s₂.vm := hW₂
    have hs₂ : s₂ = ((({ U with heap := s₂.heap, slotsUsed := s₂.slotsUsed } : State).setVm s₂.vm).setTop g).pushFrame (.throwing q) := by
      refine e3.trans ?_
      rw [hf₂, State.calling_eq h.top, State.setFrames_setFrames, State.pushFrame, State.frames_setTop _ hr', State.setTop_of_frames _ hr', State.setFrames_setFrames, hr]
      rfl
    have hsame : U.sameButNew ({ U with heap := s₂.heap, slotsUsed := s₂.slotsUsed } : State) L mc ms := by
      refine ⟨?_, q2, q3, q4, q5, q6⟩
      obtain ⟨t, ht, -⟩ := State.frames_cons hr
      show ({ U with heap := s₂.heap, slotsUsed := s₂.slotsUsed } : State) = { U.setFrames U.frames with heap := s₂.heap, slotsUsed := s₂.slotsUsed }
      rw [State.setFrames_self ht]
    subst hg
    refine Or.inr ⟨q, ⟨(({ U with heap := s₂.heap, slotsUsed := s₂.slotsUsed } : State).setVm s₂.vm), Ls ++ L, c0 + mc, s0 + ms⟩,
      ⟨X.admits, X.cas, X.clock, X.frames, X.room, X.hears, X.method, X.code, (X.here.setHeapUsed s₂.heap s₂.slotsUsed).setVm hW'.alike, X.tail, State.WarmedH.trans X.warmed hW', X.limits, X.bytes, X.same.trans (hsame.setVm s.vm)⟩,
      ⟨g, mk, s₂, L, E, ce, rfl, rfl, hx, hce, hcv, hcl, rfl, hL, rfl, rfl⟩, ?_⟩
    show Steps p.tables e below _ (((({ U with heap := s₂.heap, slotsUsed := s₂.slotsUsed } : State).setVm s₂.vm).setTop g).pushFrame (.throwing q))
    rw [← hs₂]
    exact hsteps
end Payer
section Calls
variable {p : Program} {l : Launch} {e : Env} {R : Room} {s : State} {m : MethodId} {args : Array Value} {below : List Frame} {meth : Method} {c : Code} {T : State} {locs : List Loc} {cells slots : Nat}
theorem vx_callV (X : Stand p l e R s m args below meth c T locs cells slots) (hexec : p.tables.exec = Jvm.exec) {own C : String} {index : Nat} {y : MethodName} {bytes : ByteArray} {maxL : Nat} {ret : Option FieldType}
    (hown : s.vm.findClass own = some m.cls) (hlink : (Cond.methodLink own index y).before args s = true) (hinst : (Cond.instanceMethod y).before args s = true) (hsel : (Cond.selects C y y).before args s = true)
    (hcode : (Cond.code y bytes maxL ret).before args s = true) (hy : y.cls ≠ "java/lang/invoke/MethodHandle" ∧ y.cls ≠ "java/lang/invoke/VarHandle")
    {W9 : Nat} {Pre : Pt → Array Value → Prop} {Post : Pt → Array Value → Option Value → Pt → Prop} {PostX : Pt → Array Value → Addr → Pt → Prop} (hK : vx_Back l R p e below s args y 3 W9 Pre Post PostX)
    {b : Addr} {cellB : Cell} (hcell : T.heap[b]? = some cellB) (hobj : cellB.vm.isStatics = false) (hcls : s.vm.findClass C = some cellB.cls)
    {g : JFrame} (hg : g.method = m) (hsize : g.locals.size = c.maxLocals) {argsL rest : List Value} (hlen : ∀ sig, parseMethodDescriptor y.desc = some sig → argsL.length = sig.parameters.length)
    (hstack : g.stack = argsL.reverse ++ .ref b :: rest) (hW : 2 * g.monitorRoom + (rest.map fun v => v.category).sum ≤ W9) (hdg : decode c.code g.pc = .ok (.invokevirtual index, 3))
    (hpre : ∀ vm₁, s.WarmedH vm₁ → Pre ⟨T.setVm vm₁, locs, cells, slots⟩ (Value.ref b :: argsL).toArray) :
    (∃ (v : Option Value) (vm₁ : Vm) (B : Pt), s.WarmedH vm₁ ∧ Stand p l e R s m args below meth c B.U B.locs B.cells B.slots ∧ Post ⟨T.setVm vm₁, locs, cells, slots⟩ (Value.ref b :: argsL).toArray v B ∧
      ∀ target, Steps p.tables e below (B.U.setTop { g with pc := g.pc + 3, stack := v.toList ++ rest }) target → Steps p.tables e below (T.setTop g) target) ∨
    (∃ (q : Addr) (vm₁ : Vm) (B : Pt), s.WarmedH vm₁ ∧ Stand p l e R s m args below meth c B.U B.locs B.cells B.slots ∧ PostX ⟨T.setVm vm₁, locs, cells, slots⟩ (Value.ref b :: argsL).toArray q B ∧
      Steps p.tables e below (T.setTop g) ((B.U.setTop { g with stack := rest }).pushFrame (.throwing q))) := by
  obtain ⟨mk, methM, hnamed, hmethM, hstM, habM⟩ := Cond.instanceMethod_spec hinst
  obtain ⟨methM', cM, hmethM', -, -, -, -, -, -, hsigM⟩ := Cond.code_spec hnamed hcode
  cases hmethM.symm.trans hmethM'
  obtain ⟨c2, r2, m2, q1, q2, q3, q4, kP, hkP, hkPi⟩ := Cond.selects_spec hsel
  cases hcls.symm.trans q1
  cases (State.methodFound?_of_named hnamed hy).symm.trans q2
  cases hnamed.symm.trans q3
  have hselP : selectMethod e.platform s.vm cellB.cls mk = .method mk := by rw [Launch.admits_selectMethod X.admits]; exact q4
  obtain ⟨vm₁, X₁, hstep₁⟩ := X.invokevirtual hexec hown hlink hnamed hmethM hstM hkP hkPi hy (a := b) (cell := cellB) hcell
    (fun z h => by rw [h] at hobj; cases hobj) hselP hmethM habM hkP hkPi (g := g) hg (argsL := argsL) (rest := rest) (hlen _ hsigM) hstack hdg
  rcases hK m meth c ⟨T.setVm vm₁, locs, cells, slots⟩ { g with stack := rest } (.invokevirtual index) mk (Value.ref b :: argsL).toArray X₁ hg hsize hdg hW (X₁.named hnamed) (hpre vm₁ X₁.warmed) with ⟨v, B, X', hpost, hsteps⟩ | ⟨q, B, X', hpost, hsteps⟩
  · exact Or.inl ⟨v, vm₁, B, X₁.warmed, X', hpost, fun target h => hstep₁ _ fun acts => by rw [doInvoke_state]; exact hsteps.trans h⟩
  · exact Or.inr ⟨q, vm₁, B, X₁.warmed, X', hpost, hstep₁ _ fun acts => by rw [doInvoke_state]; exact hsteps⟩
theorem vx_callS (X : Stand p l e R s m args below meth c T locs cells slots) (hexec : p.tables.exec = Jvm.exec) {own : String} {index : Nat} {y : MethodName} {bytes : ByteArray} {maxL : Nat} {ret : Option FieldType}
    (hown : s.vm.findClass own = some m.cls) (hlink : (Cond.methodLink own index y).before args s = true) (hstat : (Cond.static y).before args s = true) (hinit : (Cond.initialized y.cls).before args s = true)
    (hcode : (Cond.code y bytes maxL ret).before args s = true) (hy : y.cls ≠ "java/lang/invoke/MethodHandle" ∧ y.cls ≠ "java/lang/invoke/VarHandle")
    {W9 : Nat} {Pre : Pt → Array Value → Prop} {Post : Pt → Array Value → Option Value → Pt → Prop} {PostX : Pt → Array Value → Addr → Pt → Prop} (hK : vx_Back l R p e below s args y 3 W9 Pre Post PostX)
    {g : JFrame} (hg : g.method = m) (hsize : g.locals.size = c.maxLocals) {argsL rest : List Value} (hlen : ∀ sig, parseMethodDescriptor y.desc = some sig → argsL.length = sig.parameters.length)
    (hstack : g.stack = argsL.reverse ++ rest) (hW : 2 * g.monitorRoom + (rest.map fun v => v.category).sum ≤ W9) (hdg : decode c.code g.pc = .ok (.invokestatic index, 3))
    (hpre : ∀ vm₁, s.WarmedH vm₁ → Pre ⟨T.setVm vm₁, locs, cells, slots⟩ argsL.toArray) :
    (∃ (v : Option Value) (vm₁ : Vm) (B : Pt), s.WarmedH vm₁ ∧ Stand p l e R s m args below meth c B.U B.locs B.cells B.slots ∧ Post ⟨T.setVm vm₁, locs, cells, slots⟩ argsL.toArray v B ∧
      ∀ target, Steps p.tables e below (B.U.setTop { g with pc := g.pc + 3, stack := v.toList ++ rest }) target → Steps p.tables e below (T.setTop g) target) ∨
    (∃ (q : Addr) (vm₁ : Vm) (B : Pt), s.WarmedH vm₁ ∧ Stand p l e R s m args below meth c B.U B.locs B.cells B.slots ∧ PostX ⟨T.setVm vm₁, locs, cells, slots⟩ argsL.toArray q B ∧
      Steps p.tables e below (T.setTop g) ((B.U.setTop { g with stack := rest }).pushFrame (.throwing q))) := by
  obtain ⟨mk, hnamed⟩ := Cond.code_named hcode
  obtain ⟨methM, cM, hmethM, -, -, -, -, -, -, hsigM⟩ := Cond.code_spec hnamed hcode
  have hstatic : methM.isStatic = true := Cond.static_spec hnamed hmethM hstat
  obtain ⟨kP, hkP, -⟩ := className_of_methodNamed hnamed
  have hinitP : kP.init = .initialized := Cond.initialized_spec (findClass_of_methodNamed hnamed) hkP hinit
  obtain ⟨vm₁, X₁, hstep₁⟩ := X.invokestatic hexec hown hlink hnamed hmethM hstatic hkP hinitP hy (g := g) hg (argsL := argsL) (rest := rest) (hlen _ hsigM) hstack hdg
  rcases hK m meth c ⟨T.setVm vm₁, locs, cells, slots⟩ { g with stack := rest } (.invokestatic index) mk argsL.toArray X₁ hg hsize hdg hW (X₁.named hnamed) (hpre vm₁ X₁.warmed) with ⟨v, B, X', hpost, hsteps⟩ | ⟨q, B, X', hpost, hsteps⟩
  · exact Or.inl ⟨v, vm₁, B, X₁.warmed, X', hpost, fun target h => hstep₁ _ fun acts => by rw [doInvoke_state]; exact hsteps.trans h⟩
  · exact Or.inr ⟨q, vm₁, B, X₁.warmed, X', hpost, hstep₁ _ fun acts => by rw [doInvoke_state]; exact hsteps⟩
end Calls
theorem vx_cls {s : State} {T : State} {vm₁ : Vm} {E : String} {k : ClassId} (hW : s.WarmedH vm₁) (h : (T.setVm vm₁).vm.findClass E = some k) : s.vm.findClass E = some k := by
  have h1 : vm₁.findClass E = some k := h
  rw [hW.alike.findClass] at h1
  exact h1
/-- the method's frame g, with q thrown over it -/
def vx_W (p : Program) (l : Launch) (e : Env) (R : Room) (s : State) (m : MethodId) (args : Array Value) (below : List Frame) (meth : Method) (c : Code) (H : Heap) (locs : List Loc) (cells slots : Nat) (Q : State → Prop) (g : JFrame) (q : Addr) : Prop :=
  ∀ T : State, T.heap = H → Stand p l e R s m args below meth c T locs cells slots → ∃ t, Steps p.tables e below ((T.setTop g).pushFrame (.throwing q)) t ∧ Q t
def vx_Run (p : Program) (l : Launch) (e : Env) (R : Room) (s : State) (m : MethodId) (args : Array Value) (below : List Frame) (meth : Method) (c : Code) (H : Heap) (locs : List Loc) (cells slots mc ms : Nat) (g : JFrame) (rest : List Value) (Qa : State → Outcome → State → Prop) (XC : String → State → State → Prop) (free : Addr → Prop) : Prop :=
  ∀ T : State, T.heap = H → Stand p l e R s m args below meth c T locs cells slots →
    (∃ (v : Option Value) (st₀ t T' : State) (L : List Loc), st₀.heap = H ∧ Stand p l e R s m args below meth c T' (locs ++ L) (cells + mc) (slots + ms) ∧ (∀ q ∈ L, free q.base) ∧ T'.heap = t.heap ∧ T'.vm = t.vm ∧ Qa st₀ (.returned v) t ∧
      Goes p e below T g T' { g with pc := g.pc + 3, stack := v.toList ++ rest }) ∨
    (∃ (q : Addr) (st₀ t T' : State) (L : List Loc) (E : String) (ce : Cell), st₀.heap = H ∧ Stand p l e R s m args below meth c T' (locs ++ L) (cells + mc) (slots + ms) ∧ (∀ z ∈ L, free z.base) ∧ T'.heap = t.heap ∧ T'.vm = t.vm ∧ XC E st₀ t ∧ t.heap[q]? = some ce ∧ ce.vm = .none ∧ s.vm.findClass E = some ce.cls ∧
      Steps p.tables e below (T.setTop g) ((T'.setTop { g with stack := rest }).pushFrame (.throwing q)))
def vx_X {S : Type} (px : S → Prop) (B : String → S → State → Prop) (A : Nat → Prop) : String → State → State → Prop := fun E st t => ∃ u : S, px u ∧ B E u t ∧ va_F A st t
section Runs
variable {p : Program} {l : Launch} {e : Env} {R : Room} {s : State} {m : MethodId} {args : Array Value} {below : List Frame} {meth : Method} {c : Code} {H : Heap} {locs : List Loc} {cells slots : Nat}
variable {y : MethodName} {bytes cc : ByteArray} {maxL nL mc ms n index : Nat} {ret : Option FieldType} {ws : List Cond} {rm : Room} {Pc : Array Value → State → Prop} {Qc : Array Value → State → Outcome → State → Prop} {XC : String → State → State → Prop} {free : Addr → Prop} {Ts : List Cond} {own C : String} {b : Addr} {As rest : List Value} {g : JFrame}
theorem vx_callBack (cb : CallB R s args own index y bytes maxL ret ws rm mc ms n) (hM : vx_Met l y ws rm Pc Qc XC mc ms free) (hbl : FrameBlind Pc) : vx_Back l R p e below s args y 3 8 (PreOf R mc ms Pc) (PostOf Qc mc ms free) (vx_Post XC mc ms free) := by
  obtain ⟨hrc, hrs, hfr, hlo, hws, hcw, -, hini, -⟩ := cb
  exact vx_back (bytes := bytes) (maxL := maxL) (ret := ret) hM hbl hrc hrs hfr hlo hws hcw (fun a' U hW => word_at hW (Or.inl (by first | rfl | simp [Cond.onTables, Cond.keeps, Cond.steady])) hini)
theorem vx_runV (S : CallFix p m c cc nL s args Ts own) (hM : vx_Met l y ws rm Pc Qc XC mc ms free) (cw : CallW R s args own C index y bytes maxL ret ws rm mc ms n) (hp : PreV s H C b Pc As)
    (hg : g.method = m) (hn : As.length = n) (hsize : g.locals.size = nL) (hstack : g.stack = As.reverse ++ .ref b :: rest) (hW : 2 * g.monitorRoom + (rest.map fun v => v.category).sum ≤ 8) (hdg : decode cc g.pc = .ok (.invokevirtual index, 3)) (hf : cells + mc ≤ R.cells ∧ slots + ms ≤ R.slots) :
    vx_Run p l e R s m args below meth c H locs cells slots mc ms g rest (Qc (Value.ref b :: As).toArray) XC free := by
  have hK : vx_Back l R p e below s args y 3 8 (PreOf R mc ms Pc) (PostOf Qc mc ms free) (vx_Post XC mc ms free) := vx_callBack cw.1 hM hp.1
  obtain ⟨⟨-, -, -, -, -, -, hcode, -, hy, hlen, hl⟩, hin, hse⟩ := cw
  obtain ⟨hx, hb, hml, ho, -⟩ := S
  obtain ⟨-, ⟨cellB, hcB, hoB, hclB⟩, hPc⟩ := hp
  intro T hT X
  rcases vx_callV X hx (C := C) (bytes := bytes) (maxL := maxL) (ret := ret) ho hl hin hse hcode hy hK (by rw [hT]; exact hcB) hoB hclB hg (hsize.trans hml.symm) (argsL := As) (rest := rest) (fun sig h => hn.trans (hlen sig h)) hstack hW (by rw [hb]; exact hdg)
    (fun vm₁ hW₁ => ⟨hf.1, hf.2, hPc (T.setVm vm₁) hT hW₁⟩) with ⟨v, vm₁, ⟨U', l2, c2, s2⟩, hW₁, X', ⟨g', mk, t, L, e1, e2, hq, h1, hL, h2, h3⟩, st⟩ | ⟨q, vm₁, ⟨U', l2, c2, s2⟩, hW₁, X', ⟨g', mk, t, L, E, ce, e1, e2, hq, hce, hcv, hcl, h1, hL, h2, h3⟩, st⟩
  · dsimp only [Pt.U, Pt.locs, Pt.cells, Pt.slots] at X' e1 e2 h1 h2 h3 st
    subst h1; subst h2; subst h3
    exact Or.inl ⟨v, (T.setVm vm₁).calling g' mk (Value.ref b :: As).toArray, t, U', L, hT, X', hL, e1, e2, hq, st⟩
  · dsimp only [Pt.U, Pt.locs, Pt.cells, Pt.slots] at X' e1 e2 h1 h2 h3 st hcl
    subst h1; subst h2; subst h3
    exact Or.inr ⟨q, (T.setVm vm₁).calling g' mk (Value.ref b :: As).toArray, t, U', L, E, ce, hT, X', hL, e1, e2, hq, hce, hcv, vx_cls hW₁ hcl, st⟩
theorem vx_runS (S : CallFix p m c cc nL s args Ts own) (hM : vx_Met l y ws rm Pc Qc XC mc ms free) (cw : CallB R s args own index y bytes maxL ret ws rm mc ms n ∧ (Cond.static y).before args s = true) (hp : PreS s H Pc As)
    (hg : g.method = m) (hn : As.length = n) (hsize : g.locals.size = nL) (hstack : g.stack = As.reverse ++ rest) (hW : 2 * g.monitorRoom + (rest.map fun v => v.category).sum ≤ 8) (hdg : decode cc g.pc = .ok (.invokestatic index, 3)) (hf : cells + mc ≤ R.cells ∧ slots + ms ≤ R.slots) :
    vx_Run p l e R s m args below meth c H locs cells slots mc ms g rest (Qc As.toArray) XC free := by
  have hK : vx_Back l R p e below s args y 3 8 (PreOf R mc ms Pc) (PostOf Qc mc ms free) (vx_Post XC mc ms free) := vx_callBack cw.1 hM hp.1
  obtain ⟨⟨-, -, -, -, -, -, hcode, hini, hy, hlen, hl⟩, hstt⟩ := cw
  obtain ⟨hx, hb, hml, ho, -⟩ := S
  intro T hT X
  rcases vx_callS X hx (bytes := bytes) (maxL := maxL) (ret := ret) ho hl hstt hini hcode hy hK hg (hsize.trans hml.symm) (argsL := As) (rest := rest) (fun sig h => hn.trans (hlen sig h)) hstack hW (by rw [hb]; exact hdg)
    (fun vm₁ hW₁ => ⟨hf.1, hf.2, hp.2 (T.setVm vm₁) hT hW₁⟩) with ⟨v, vm₁, ⟨U', l2, c2, s2⟩, hW₁, X', ⟨g', mk, t, L, e1, e2, hq, h1, hL, h2, h3⟩, st⟩ | ⟨q, vm₁, ⟨U', l2, c2, s2⟩, hW₁, X', ⟨g', mk, t, L, E, ce, e1, e2, hq, hce, hcv, hcl, h1, hL, h2, h3⟩, st⟩
  · dsimp only [Pt.U, Pt.locs, Pt.cells, Pt.slots] at X' e1 e2 h1 h2 h3 st
    subst h1; subst h2; subst h3
    exact Or.inl ⟨v, (T.setVm vm₁).calling g' mk As.toArray, t, U', L, hT, X', hL, e1, e2, hq, st⟩
  · dsimp only [Pt.U, Pt.locs, Pt.cells, Pt.slots] at X' e1 e2 h1 h2 h3 st hcl
    subst h1; subst h2; subst h3
    exact Or.inr ⟨q, (T.setVm vm₁).calling g' mk As.toArray, t, U', L, E, ce, hT, X', hL, e1, e2, hq, hce, hcv, vx_cls hW₁ hcl, st⟩
end Runs
section Rows
variable {p : Program} {l : Launch} {e : Env} {R : Room} {s : State} {m : MethodId} {args : Array Value} {below : List Frame} {meth : Method} {c : Code} {H : Heap} {locs : List Loc} {cells slots : Nat} {Q : State → Prop}
variable {mc ms : Nat} {free : Addr → Prop} {A0 A1 : Nat → Prop} {H0 : Heap} {a : Array Value} {pc : Nat} {ls : Array Slot} {st0 rest : List Value}
theorem vx_keep {st₀ t T' : State} {L : List Loc} (h0 : st₀.heap = H) (e1 : T'.heap = t.heap) (hS : va_S A0 H0 H locs) (hA : ∀ q, q < H.size → A1 q → A0 q) (hf : ∀ q, free q → A0 q) (hL : ∀ q ∈ L, free q.base) (hF : va_F A1 st₀ t) :
    H.size ≤ T'.heap.size ∧ (∀ q : Nat, q < H.size → ¬ A1 q → T'.heap[q]? = H[q]?) ∧ va_S A0 H0 T'.heap (locs ++ L) := by
  obtain ⟨hz, hk⟩ := hF
  rw [h0] at hz hk
  exact ⟨by rw [e1]; exact hz, fun q h1 h2 => by rw [e1]; exact hk q h1 h2,
    ⟨Nat.le_trans hS.1 (by rw [e1]; exact hz), fun q h1 h2 => by rw [e1, hk q (Nat.lt_of_lt_of_le h1 hS.1) (fun z => h2 (hA q (Nat.lt_of_lt_of_le h1 hS.1) z))]; exact hS.2.1 q h1 h2, fun q hq => by
      rcases List.mem_append.mp hq with h | h
      · exact hS.2.2 q h
      · exact hf _ (hL q h)⟩⟩
theorem vx_calli {S SX : Type} {post : Int32 → S → Prop} {px : SX → Prop} {B : S → State → Prop} {BX : String → SX → State → Prop} {AX : Nat → Prop} (hr : vx_Run p l e R s m args below meth c H locs cells slots mc ms (F0 m pc ls st0) rest (va_Qi post B A1 a) (vx_X px BX AX) free) (hS : va_S A0 H0 H locs) (hA : ∀ q, q < H.size → A1 q → A0 q) (hf : ∀ q, free q → A0 q) (hAX : ∀ q, q < H.size → AX q → A0 q)
    (kx : ∀ (E : String) (ce : Cell) (q9 : Addr) (u : SX) (t : State) (H1 : Heap) (locs1 : List Loc), t.heap = H1 → s.vm.Alike t.vm → px u → BX E u t → H.size ≤ H1.size → (∀ q : Nat, q < H.size → ¬ AX q → H1[q]? = H[q]?) → va_S A0 H0 H1 locs1 → H1[q9]? = some ce → ce.vm = .none → s.vm.findClass E = some ce.cls → vx_W p l e R s m args below meth c H1 locs1 (cells + mc) (slots + ms) Q (F0 m pc ls rest) q9)
    (kk : ∀ (r : Int32) (u : S) (t : State) (H1 : Heap) (locs1 : List Loc), t.heap = H1 → s.vm.Alike t.vm → post r u → B u t → H.size ≤ H1.size → (∀ q : Nat, q < H.size → ¬ A1 q → H1[q]? = H[q]?) → va_S A0 H0 H1 locs1 → W p l e R s m args below meth c H1 locs1 (cells + mc) (slots + ms) Q (F0 m (pc + 3) ls (.int r :: rest))) : W p l e R s m args below meth c H locs cells slots Q (F0 m pc ls st0) := by
  intro T hT X
  rcases hr T hT X with ⟨v, st₀, t, T', L, h0, X', hL, e1, e2, ⟨⟨r, u, hv, hp, hb⟩, hF⟩, st⟩ | ⟨q, st₀, t, T', L, E, ce, h0, X', hL, e1, e2, ⟨u, hp, hb, hF⟩, hce, hcv, hcl, st⟩
  · cases hv
    obtain ⟨k1, k2, k3⟩ := vx_keep h0 e1 hS hA hf hL hF
    obtain ⟨t2, a1, b1⟩ := kk r u t T'.heap (locs ++ L) e1.symm (by rw [← e2]; exact X'.warmed.alike) hp hb k1 k2 k3 T' rfl X'
    exact ⟨t2, st t2 a1, b1⟩
  · obtain ⟨k1, k2, k3⟩ := vx_keep h0 e1 hS hAX hf hL hF
    obtain ⟨t2, a1, b1⟩ := kx E ce q u t T'.heap (locs ++ L) e1.symm (by rw [← e2]; exact X'.warmed.alike) hp hb k1 k2 k3 (by rw [e1]; exact hce) hcv hcl T' rfl X'
    exact ⟨t2, st.trans a1, b1⟩
theorem vx_calll {S SX : Type} {post : Int64 → S → Prop} {px : SX → Prop} {B : S → State → Prop} {BX : String → SX → State → Prop} {AX : Nat → Prop} (hr : vx_Run p l e R s m args below meth c H locs cells slots mc ms (F0 m pc ls st0) rest (va_Ql post B A1 a) (vx_X px BX AX) free) (hS : va_S A0 H0 H locs) (hA : ∀ q, q < H.size → A1 q → A0 q) (hf : ∀ q, free q → A0 q) (hAX : ∀ q, q < H.size → AX q → A0 q)
    (kx : ∀ (E : String) (ce : Cell) (q9 : Addr) (u : SX) (t : State) (H1 : Heap) (locs1 : List Loc), t.heap = H1 → s.vm.Alike t.vm → px u → BX E u t → H.size ≤ H1.size → (∀ q : Nat, q < H.size → ¬ AX q → H1[q]? = H[q]?) → va_S A0 H0 H1 locs1 → H1[q9]? = some ce → ce.vm = .none → s.vm.findClass E = some ce.cls → vx_W p l e R s m args below meth c H1 locs1 (cells + mc) (slots + ms) Q (F0 m pc ls rest) q9)
    (kk : ∀ (r : Int64) (u : S) (t : State) (H1 : Heap) (locs1 : List Loc), t.heap = H1 → s.vm.Alike t.vm → post r u → B u t → H.size ≤ H1.size → (∀ q : Nat, q < H.size → ¬ A1 q → H1[q]? = H[q]?) → va_S A0 H0 H1 locs1 → W p l e R s m args below meth c H1 locs1 (cells + mc) (slots + ms) Q (F0 m (pc + 3) ls (.long r :: rest))) : W p l e R s m args below meth c H locs cells slots Q (F0 m pc ls st0) := by
  intro T hT X
  rcases hr T hT X with ⟨v, st₀, t, T', L, h0, X', hL, e1, e2, ⟨⟨r, u, hv, hp, hb⟩, hF⟩, st⟩ | ⟨q, st₀, t, T', L, E, ce, h0, X', hL, e1, e2, ⟨u, hp, hb, hF⟩, hce, hcv, hcl, st⟩
  · cases hv
    obtain ⟨k1, k2, k3⟩ := vx_keep h0 e1 hS hA hf hL hF
    obtain ⟨t2, a1, b1⟩ := kk r u t T'.heap (locs ++ L) e1.symm (by rw [← e2]; exact X'.warmed.alike) hp hb k1 k2 k3 T' rfl X'
    exact ⟨t2, st t2 a1, b1⟩
  · obtain ⟨k1, k2, k3⟩ := vx_keep h0 e1 hS hAX hf hL hF
    obtain ⟨t2, a1, b1⟩ := kx E ce q u t T'.heap (locs ++ L) e1.symm (by rw [← e2]; exact X'.warmed.alike) hp hb k1 k2 k3 (by rw [e1]; exact hce) hcv hcl T' rfl X'
    exact ⟨t2, st.trans a1, b1⟩
theorem vx_callf {S SX : Type} {post : UInt32 → S → Prop} {px : SX → Prop} {B : S → State → Prop} {BX : String → SX → State → Prop} {AX : Nat → Prop} (hr : vx_Run p l e R s m args below meth c H locs cells slots mc ms (F0 m pc ls st0) rest (va_Qf post B A1 a) (vx_X px BX AX) free) (hS : va_S A0 H0 H locs) (hA : ∀ q, q < H.size → A1 q → A0 q) (hf : ∀ q, free q → A0 q) (hAX : ∀ q, q < H.size → AX q → A0 q)
    (kx : ∀ (E : String) (ce : Cell) (q9 : Addr) (u : SX) (t : State) (H1 : Heap) (locs1 : List Loc), t.heap = H1 → s.vm.Alike t.vm → px u → BX E u t → H.size ≤ H1.size → (∀ q : Nat, q < H.size → ¬ AX q → H1[q]? = H[q]?) → va_S A0 H0 H1 locs1 → H1[q9]? = some ce → ce.vm = .none → s.vm.findClass E = some ce.cls → vx_W p l e R s m args below meth c H1 locs1 (cells + mc) (slots + ms) Q (F0 m pc ls rest) q9)
    (kk : ∀ (r : UInt32) (u : S) (t : State) (H1 : Heap) (locs1 : List Loc), t.heap = H1 → s.vm.Alike t.vm → post r u → B u t → H.size ≤ H1.size → (∀ q : Nat, q < H.size → ¬ A1 q → H1[q]? = H[q]?) → va_S A0 H0 H1 locs1 → W p l e R s m args below meth c H1 locs1 (cells + mc) (slots + ms) Q (F0 m (pc + 3) ls (.float r :: rest))) : W p l e R s m args below meth c H locs cells slots Q (F0 m pc ls st0) := by
  intro T hT X
  rcases hr T hT X with ⟨v, st₀, t, T', L, h0, X', hL, e1, e2, ⟨⟨r, u, hv, hp, hb⟩, hF⟩, st⟩ | ⟨q, st₀, t, T', L, E, ce, h0, X', hL, e1, e2, ⟨u, hp, hb, hF⟩, hce, hcv, hcl, st⟩
  · cases hv
    obtain ⟨k1, k2, k3⟩ := vx_keep h0 e1 hS hA hf hL hF
    obtain ⟨t2, a1, b1⟩ := kk r u t T'.heap (locs ++ L) e1.symm (by rw [← e2]; exact X'.warmed.alike) hp hb k1 k2 k3 T' rfl X'
    exact ⟨t2, st t2 a1, b1⟩
  · obtain ⟨k1, k2, k3⟩ := vx_keep h0 e1 hS hAX hf hL hF
    obtain ⟨t2, a1, b1⟩ := kx E ce q u t T'.heap (locs ++ L) e1.symm (by rw [← e2]; exact X'.warmed.alike) hp hb k1 k2 k3 (by rw [e1]; exact hce) hcv hcl T' rfl X'
    exact ⟨t2, st.trans a1, b1⟩
theorem vx_calld {S SX : Type} {post : UInt64 → S → Prop} {px : SX → Prop} {B : S → State → Prop} {BX : String → SX → State → Prop} {AX : Nat → Prop} (hr : vx_Run p l e R s m args below meth c H locs cells slots mc ms (F0 m pc ls st0) rest (va_Qd post B A1 a) (vx_X px BX AX) free) (hS : va_S A0 H0 H locs) (hA : ∀ q, q < H.size → A1 q → A0 q) (hf : ∀ q, free q → A0 q) (hAX : ∀ q, q < H.size → AX q → A0 q)
    (kx : ∀ (E : String) (ce : Cell) (q9 : Addr) (u : SX) (t : State) (H1 : Heap) (locs1 : List Loc), t.heap = H1 → s.vm.Alike t.vm → px u → BX E u t → H.size ≤ H1.size → (∀ q : Nat, q < H.size → ¬ AX q → H1[q]? = H[q]?) → va_S A0 H0 H1 locs1 → H1[q9]? = some ce → ce.vm = .none → s.vm.findClass E = some ce.cls → vx_W p l e R s m args below meth c H1 locs1 (cells + mc) (slots + ms) Q (F0 m pc ls rest) q9)
    (kk : ∀ (r : UInt64) (u : S) (t : State) (H1 : Heap) (locs1 : List Loc), t.heap = H1 → s.vm.Alike t.vm → post r u → B u t → H.size ≤ H1.size → (∀ q : Nat, q < H.size → ¬ A1 q → H1[q]? = H[q]?) → va_S A0 H0 H1 locs1 → W p l e R s m args below meth c H1 locs1 (cells + mc) (slots + ms) Q (F0 m (pc + 3) ls (.double r :: rest))) : W p l e R s m args below meth c H locs cells slots Q (F0 m pc ls st0) := by
  intro T hT X
  rcases hr T hT X with ⟨v, st₀, t, T', L, h0, X', hL, e1, e2, ⟨⟨r, u, hv, hp, hb⟩, hF⟩, st⟩ | ⟨q, st₀, t, T', L, E, ce, h0, X', hL, e1, e2, ⟨u, hp, hb, hF⟩, hce, hcv, hcl, st⟩
  · cases hv
    obtain ⟨k1, k2, k3⟩ := vx_keep h0 e1 hS hA hf hL hF
    obtain ⟨t2, a1, b1⟩ := kk r u t T'.heap (locs ++ L) e1.symm (by rw [← e2]; exact X'.warmed.alike) hp hb k1 k2 k3 T' rfl X'
    exact ⟨t2, st t2 a1, b1⟩
  · obtain ⟨k1, k2, k3⟩ := vx_keep h0 e1 hS hAX hf hL hF
    obtain ⟨t2, a1, b1⟩ := kx E ce q u t T'.heap (locs ++ L) e1.symm (by rw [← e2]; exact X'.warmed.alike) hp hb k1 k2 k3 (by rw [e1]; exact hce) hcv hcl T' rfl X'
    exact ⟨t2, st.trans a1, b1⟩
theorem vx_callv {S SX : Type} {post : S → Prop} {px : SX → Prop} {B : S → State → Prop} {BX : String → SX → State → Prop} {AX : Nat → Prop} (hr : vx_Run p l e R s m args below meth c H locs cells slots mc ms (F0 m pc ls st0) rest (va_Qv post B A1 a) (vx_X px BX AX) free) (hS : va_S A0 H0 H locs) (hA : ∀ q, q < H.size → A1 q → A0 q) (hf : ∀ q, free q → A0 q) (hAX : ∀ q, q < H.size → AX q → A0 q)
    (kx : ∀ (E : String) (ce : Cell) (q9 : Addr) (u : SX) (t : State) (H1 : Heap) (locs1 : List Loc), t.heap = H1 → s.vm.Alike t.vm → px u → BX E u t → H.size ≤ H1.size → (∀ q : Nat, q < H.size → ¬ AX q → H1[q]? = H[q]?) → va_S A0 H0 H1 locs1 → H1[q9]? = some ce → ce.vm = .none → s.vm.findClass E = some ce.cls → vx_W p l e R s m args below meth c H1 locs1 (cells + mc) (slots + ms) Q (F0 m pc ls rest) q9)
    (kk : ∀ (u : S) (t : State) (H1 : Heap) (locs1 : List Loc), t.heap = H1 → s.vm.Alike t.vm → post u → B u t → H.size ≤ H1.size → (∀ q : Nat, q < H.size → ¬ A1 q → H1[q]? = H[q]?) → va_S A0 H0 H1 locs1 → W p l e R s m args below meth c H1 locs1 (cells + mc) (slots + ms) Q (F0 m (pc + 3) ls (rest))) : W p l e R s m args below meth c H locs cells slots Q (F0 m pc ls st0) := by
  intro T hT X
  rcases hr T hT X with ⟨v, st₀, t, T', L, h0, X', hL, e1, e2, ⟨⟨u, hv, hp, hb⟩, hF⟩, st⟩ | ⟨q, st₀, t, T', L, E, ce, h0, X', hL, e1, e2, ⟨u, hp, hb, hF⟩, hce, hcv, hcl, st⟩
  · cases hv
    obtain ⟨k1, k2, k3⟩ := vx_keep h0 e1 hS hA hf hL hF
    obtain ⟨t2, a1, b1⟩ := kk u t T'.heap (locs ++ L) e1.symm (by rw [← e2]; exact X'.warmed.alike) hp hb k1 k2 k3 T' rfl X'
    exact ⟨t2, st t2 a1, b1⟩
  · obtain ⟨k1, k2, k3⟩ := vx_keep h0 e1 hS hAX hf hL hF
    obtain ⟨t2, a1, b1⟩ := kx E ce q u t T'.heap (locs ++ L) e1.symm (by rw [← e2]; exact X'.warmed.alike) hp hb k1 k2 k3 (by rw [e1]; exact hce) hcv hcl T' rfl X'
    exact ⟨t2, st.trans a1, b1⟩
/-- caught by the row x of this method's table; the rows ahead don't take it -/
theorem vx_catch {own name : String} {E : String} {ce : Cell} {q : Addr} (hown : s.vm.findClass own = some m.cls) (pre : List ExceptionTableEntry) (x : ExceptionTableEntry) (suf : List ExceptionTableEntry) (hsplit : c.exceptionTable.toList = pre ++ x :: suf)
    (hpass : ∀ z ∈ pre, covers z pc = false ∨ (z.catchType ≠ 0 ∧ ∃ nm : String, (Cond.classLink own z.catchType nm).before args s = true ∧ va_Nc E nm s)) (hx : covers x pc = true) (h0 : x.catchType ≠ 0)
    (hlink : (Cond.classLink own x.catchType name).before args s = true) (hcast : (Cond.castable E name).before args s = true) (hcell : H[q]? = some ce) (hv : ce.vm = .none) (hcl : s.vm.findClass E = some ce.cls)
    (kk : W p l e R s m args below meth c H locs cells slots Q (F0 m x.handlerPc ls [.ref q])) : vx_W p l e R s m args below meth c H locs cells slots Q (F0 m pc ls rest) q := by
  intro T hT X
  have hpl : e.platform.magicAccessors = ({} : Platform).magicAccessors := by rw [X.admits.platform]
  obtain ⟨c3, c4, hc3, hc4, hasg⟩ := Cond.castable_spec hcast
  cases Option.some.inj (hc3.symm.trans hcl)
  obtain ⟨c5, hc5, hcl5⟩ := Cond.classLink_spec hown hlink e.platform hpl
  cases Option.some.inj (hc4.symm.trans hc5)
  obtain ⟨vm', X', st⟩ := X.thenCaughtThrough q (g := F0 m pc ls rest) rfl (Steps.refl _) (by rw [hT]; exact hcell) (by rw [hv]; rfl) (by obtain ⟨k9, h9, -⟩ := Vm.findClass_spec hcl; exact ⟨k9, h9⟩) pre x suf hsplit
    (fun z hz => by
      rcases hpass z hz with h | ⟨hz0, nm, hl1, hn1⟩
      · exact Or.inl h
      · obtain ⟨c6, hc6, hcl6⟩ := Cond.classLink_spec hown hl1 e.platform hpl
        obtain ⟨a8, b8, h1, h2, h3⟩ := hn1
        cases Option.some.inj (h1.symm.trans hcl)
        cases Option.some.inj (h2.symm.trans hc6)
        exact Or.inr ⟨hz0, _, hcl6, h3⟩) hx (Or.inr ⟨h0, c4, hcl5, hasg⟩)
  obtain ⟨t, a1, b1⟩ := kk (T.setVm vm') hT X'
  exact ⟨t, st.trans a1, b1⟩
end Rows
section Ends
variable {p : Program} {l : Launch} {e : Env} {R : Room} {s : State} {m : MethodId} {args : Array Value} {below : List Frame} {meth : Method} {c : Code} {H : Heap} {locs : List Loc} {cells slots : Nat} {Q : State → Prop}
variable {mc ms : Nat} {free : Addr → Prop} {A0 A1 : Nat → Prop} {H0 : Heap} {a : Array Value} {ls : Array Slot} {st0 rest : List Value}
variable {Qc : Array Value → State → Outcome → State → Prop} {XC : String → State → State → Prop}
/-- what a body that may throw owes at its end -/
def vx_MQ (below : List Frame) (Qc : Array Value → State → Outcome → State → Prop) (XC : String → State → State → Prop) (a : Array Value) (s : State) (mc ms : Nat) (free : Addr → Prop) : State → Prop := fun t =>
  ∃ o, t.status = .running ∧ Ended t below o ∧ vx_Q Qc XC mc ms free a s o t
theorem vx_ret {g : JFrame} {mc ms : Nat} (k : W p l e R s m args below meth c H locs cells slots (MQ below Qc args s mc ms free) g) : W p l e R s m args below meth c H locs cells slots (vx_MQ below Qc XC args s mc ms free) g := by
  intro T hT X
  obtain ⟨t, a1, o, b1, b2, b3, b4⟩ := k T hT X
  exact ⟨t, a1, o, b1, b2, Or.inl ⟨b3, b4⟩⟩
/-- not caught here: it goes on to the caller -/
theorem vx_widen {g : JFrame} {q : Addr} {k n : Nat} (h1 : cells ≤ k) (h2 : slots ≤ n) (kk : vx_W p l e R s m args below meth c H locs k n Q g q) : vx_W p l e R s m args below meth c H locs cells slots Q g q := fun T hT X => kk T hT (stand_widen X h1 h2)
theorem vx_out {pc : Nat} {E : String} {ce : Cell} {q : Addr} {mc ms : Nat} (hout : ∀ x ∈ c.exceptionTable.toList, covers x pc = false) (hlocks : meth.locks = false) (hcell : H[q]? = some ce) (hv : ce.vm = .none) (hcl : s.vm.findClass E = some ce.cls)
    (hx : ∀ t : State, t.heap = H → s.vm.Alike t.vm → XC E s t) (hf : ∀ z ∈ locs, free z.base) (hc : cells ≤ mc) (hs : slots ≤ ms) :
    vx_W p l e R s m args below meth c H locs cells slots (vx_MQ below Qc XC args s mc ms free) (F0 m pc ls rest) q := by
  intro T hT X
  obtain ⟨st1, hrun, hend, hW, hsm⟩ := X.leaveThrown q (g := F0 m pc ls rest) rfl rfl rfl hout hlocks
  have hcell9 : (T.setFrames (.throwing q :: below)).heap[q]? = some ce := by
    show T.heap[q]? = some ce
    rw [hT]; exact hcell
  exact ⟨_, st1, .threw q, hrun, hend, Or.inr ⟨q, rfl, E, ce, locs, hx _ hT hW.alike, hcell9, hv, hcl, hW, hsm.mono hc hs, hf⟩⟩
theorem vx_frame {U : State} {k n : Nat} (h : s.sameButNew ({ U with vm := s.vm } : State) locs k n) : s.heap.size ≤ U.heap.size ∧ ∀ q : Nat, q < s.heap.size → (∀ z ∈ locs, z.base ≠ q) → U.heap[q]? = s.heap[q]? := by
  obtain ⟨-, h2, -, -, -, h6⟩ := h
  refine ⟨h2, fun q hq hz => ?_⟩
  obtain ⟨c9, e1, e2, e3, e4⟩ := h6 q _ (Array.getElem?_eq_getElem hq)
  have hs : c9.slots = (s.heap[q]).slots := Array.ext_getElem? fun i => e4 i fun hm => hz _ hm rfl
  have h9 : c9 = s.heap[q] := by
    rw [hs] at e2
    exact e2
  have e5 : U.heap[q]? = some c9 := e1
  rw [e5, h9, Array.getElem?_eq_getElem hq]
/-- the words of a throw but the four that speak of the heap -/
def vx_no (w : Cond) : Bool := decide (w ≠ .isRef (.static Bundle.tN "UNASSIGNED_STACK" Bundle.steD)) && decide (w ≠ .isRef (.static Bundle.tN "SUPPRESSED_SENTINEL" Bundle.listD)) && decide (w ≠ .laysStatic Bundle.tN "UNASSIGNED_STACK" Bundle.steD) && decide (w ≠ .laysStatic Bundle.tN "SUPPRESSED_SENTINEL" Bundle.listD)
def vx_at0 (own : String) (ic : Nat) (X : String) (names : List String) : List Cond := (Bundle.ownAtoms0 own ic X names).filter vx_no
def vx_atS (own : String) (ic : Nat) (X : String) (names : List String) : List Cond := (Bundle.ownAtoms own ic X names).filter vx_no
/-- a word that the tables alone decide, or a good one -/
def vx_ot (w : Cond) : Bool := w.onTables || goodWord w
theorem vx_ot_at {args a' : Array Value} {s U : State} {w : Cond} (hW : s.WarmedH U.vm) (hvm : s.vm = U.vm) (hg : vx_ot w = true) (h : w.before args s = true) : w.before a' U = true := by
  simp only [vx_ot, Bool.or_eq_true] at hg
  rcases hg with hg | hg
  · exact va_tabs hg hvm h
  · exact word_at hW (good_of_word hg) h
/-- a list's words: the good ones out of the method's own list, the others by premises of their own -/
theorem vx_hat {args : Array Value} {s : State} {L B : List Cond} (h1 : ∀ w ∈ L.filter goodWord, w.before args s = true) (h2 : ∀ w ∈ L.filter (fun w => !goodWord w), w ∈ B) (h3 : ∀ w ∈ B, w.before args s = true) : ∀ w ∈ L, w.before args s = true := by
  intro w hw
  by_cases g : goodWord w = true
  · exact h1 w (List.mem_filter.mpr ⟨hw, g⟩)
  · refine h3 w (h2 w (List.mem_filter.mpr ⟨hw, ?_⟩))
    show (!goodWord w) = true
    cases hgw : goodWord w
    · rfl
    · exact absurd hgw g
theorem vx_c {args : Array Value} {s : State} {w : Cond} {B : List Cond} (h : w.before args s = true) (t : ∀ w ∈ B, w.before args s = true) : ∀ w' ∈ w :: B, w'.before args s = true := fun w' h' => (List.mem_cons.mp h').elim (fun e => by rw [e]; exact h) (t w')
theorem vx_n {args : Array Value} {s : State} : ∀ w ∈ ([] : List Cond), w.before args s = true := fun _ h => nomatch h
theorem vx_own {args : Array Value} {s : State} {L : List Cond} (h1 : ∀ w ∈ L.filter vx_no, w.before args s = true)
    (hU : (Cond.isRef (.static Bundle.tN "UNASSIGNED_STACK" Bundle.steD)).before args s = true) (hN : (Cond.isRef (.static Bundle.tN "SUPPRESSED_SENTINEL" Bundle.listD)).before args s = true)
    (lU : (Cond.laysStatic Bundle.tN "UNASSIGNED_STACK" Bundle.steD).before args s = true) (lN : (Cond.laysStatic Bundle.tN "SUPPRESSED_SENTINEL" Bundle.listD).before args s = true) : ∀ w ∈ L, w.before args s = true := by
  intro w hw
  by_cases e1 : w = .isRef (.static Bundle.tN "UNASSIGNED_STACK" Bundle.steD)
  · rw [e1]; exact hU
  · by_cases e2 : w = .isRef (.static Bundle.tN "SUPPRESSED_SENTINEL" Bundle.listD)
    · rw [e2]; exact hN
    · by_cases e3 : w = .laysStatic Bundle.tN "UNASSIGNED_STACK" Bundle.steD
      · rw [e3]; exact lU
      · by_cases e4 : w = .laysStatic Bundle.tN "SUPPRESSED_SENTINEL" Bundle.listD
        · rw [e4]; exact lN
        · exact h1 w (List.mem_filter.mpr ⟨hw, by unfold vx_no; rw [decide_eq_true e1, decide_eq_true e2, decide_eq_true e3, decide_eq_true e4]; rfl⟩)
/-- where a static field lies, its class's statics cell in H -/
def vx_L (C n d : String) (A : Nat → Prop) (U : State) (H : Heap) : Prop := ∃ (c : ClassId) (k : Class) (i : Nat) (f : Field) (a : Nat) (cell : Cell), U.vm.findClass C = some c ∧ U.fieldFound? C n d = some (c, k, i, f) ∧ f.isStatic = true ∧ k.statics = some a ∧ H[a]? = some cell ∧ cell.vm.isStatics = true ∧ cell.cls = c ∧ f.slot < cell.slots.size ∧ k.staticTypes[f.slot]? = some f.type ∧ ¬ A a
theorem vx_L.moved {C n d : String} {A : Nat → Prop} {u U : State} {H : Heap} (hvm : u.vm.Alike U.vm) (h : vx_L C n d A u H) : vx_L C n d A U H := by
  obtain ⟨c, k, i, f, a, cell, h1, h2, h3, h4, h5, h6, h7, h8, h9, h10⟩ := h
  obtain ⟨k', hi', he⟩ := State.fieldFound?_setVm hvm h2
  exact ⟨c, k', i, f, a, cell, by rw [hvm.findClass]; exact h1, hi', h3, by rw [he]; exact h4, h5, h6, h7, h8, by rw [he]; exact h9, h10⟩
theorem vx_L.kept {C n d : String} {A : Nat → Prop} {U : State} {H H1 : Heap} (h : vx_L C n d A U H) (hq : ∀ a : Nat, a < H.size → ¬ A a → H1[a]? = H[a]?) : vx_L C n d A U H1 := by
  obtain ⟨c, k, i, f, a, cell, h1, h2, h3, h4, h5, h6, h7, h8, h9, h10⟩ := h
  exact ⟨c, k, i, f, a, cell, h1, h2, h3, h4, by rw [hq a (Array.getElem?_eq_some_iff.mp h5).1 h10]; exact h5, h6, h7, h8, h9, h10⟩
theorem vx_L.narrow {C n d : String} {A B : Nat → Prop} {U : State} {H : Heap} (h : vx_L C n d A U H) (hAB : ∀ q, B q → A q) : vx_L C n d B U H := by
  obtain ⟨c, k, i, f, a, cell, h1, h2, h3, h4, h5, h6, h7, h8, h9, h10⟩ := h
  exact ⟨c, k, i, f, a, cell, h1, h2, h3, h4, h5, h6, h7, h8, h9, fun z => h10 (hAB _ z)⟩
theorem vx_L.word {C n d : String} {A : Nat → Prop} {s : State} {args : Array Value} (h : vx_L C n d A s s.heap) : (Cond.laysStatic C n d).before args s = true := by
  obtain ⟨c, k, i, f, a, cell, h1, h2, h3, h4, h5, h6, h7, h8, h9, -⟩ := h
  show (Cond.laysStatic C n d).holds args s none s [] = true
  exact Cond.laysStatic_of h1 h2 h3 h4 h5 h6 h7 h8 h9
/-- .. and what it holds: null or some reference -/
def vx_Zq (C n d : String) (A : Nat → Prop) (U : State) (H : Heap) : Prop := va_Zq C n d A U H ∧ vx_L C n d A U H
theorem vx_Zq.moved {C n d : String} {A : Nat → Prop} {u U : State} {H : Heap} (hvm : u.vm.Alike U.vm) (h : vx_Zq C n d A u H) : vx_Zq C n d A U H := ⟨va_Zq.moved hvm h.1, vx_L.moved hvm h.2⟩
theorem vx_Zq.kept {C n d : String} {A : Nat → Prop} {U : State} {H H1 : Heap} (h : vx_Zq C n d A U H) (hq : ∀ a : Nat, a < H.size → ¬ A a → H1[a]? = H[a]?) : vx_Zq C n d A U H1 := ⟨va_Zq.kept h.1 hq, vx_L.kept h.2 hq⟩
theorem vx_Zq.narrow {C n d : String} {A B : Nat → Prop} {U : State} {H : Heap} (h : vx_Zq C n d A U H) (hAB : ∀ q, B q → A q) : vx_Zq C n d B U H := ⟨va_Zq.narrow h.1 hAB, vx_L.narrow h.2 hAB⟩
theorem vx_Zqof {args : Array Value} {s : State} {C n d : String} {A : Nat → Prop} (hl : (Cond.laysStatic C n d).before args s = true) (hini : (Cond.initialized C).before args s = true) (h : (Cond.isRef (.static C n d)).before args s = true) (hA : ∀ a : Nat, a < s.heap.size → ¬ A a) : vx_Zq C n d A s s.heap := by
  refine ⟨va_Zqof hl hini h hA, ?_⟩
  obtain ⟨c, k, i, f, a, cell, h1, h2, h3, h4, h5, h6, h7, h8, h9⟩ := Cond.laysStatic_spec hl
  exact ⟨c, k, i, f, a, cell, h1, h2, h3, h4, h5, h6, h7, h8, h9, hA a (Array.getElem?_eq_some_iff.mp h5).1⟩
theorem vx_isRef {C n d : String} {v : Value} {A : Nat → Prop} {s : State} {args : Array Value} (h : va_Z C n d v A s s.heap) (hv : v.isRef = true) : (Cond.isRef (.static C n d)).before args s = true := by
  obtain ⟨cf, kf, fi, f, a, cell, h1, h2, h3, h4, h5, h6, h7, -⟩ := h
  have he : (Term.static C n d).eval args s none [] s = some v := by
    simp [Term.eval, State.fieldNamed?, h1, h2, h4, h5, h6, h7]
  simp only [Cond.before, Cond.holds, Cond.value, he]
  cases v <;> simp_all [Value.isRef]
theorem vx_isRefq {C n d : String} {A : Nat → Prop} {s : State} {args : Array Value} (h : va_Zq C n d A s s.heap) : (Cond.isRef (.static C n d)).before args s = true := by
  rcases h with h | ⟨t, h⟩
  · exact vx_isRef h rfl
  · exact vx_isRef h rfl
/-- the same frame, seen from here: as if the method were called anew in this heap -/
theorem vx_rebase {T : State} (X : Stand p l e R s m args below meth c T locs cells slots) {R' : Room} (hf : R'.frames ≤ R.frames) (hl : R'.locals ≤ R.locals) (hc : cells + R'.cells ≤ R.cells) (hs : slots + R'.slots ≤ R.slots) :
    Stand p l e R' ((T.setVm s.vm).setFrames (.invoking m args :: below)) m args below meth c T [] 0 0 := by
  have htop : (T.setVm s.vm).topJava?.isSome := X.here.top
  have hF : ((T.setVm s.vm).setFrames (.invoking m args :: below)).frames = .invoking m args :: below := State.frames_setFrames _ (State.cur_lt_of_top htop)
  obtain ⟨g₀, hg0⟩ := Option.isSome_iff_exists.mp htop
  obtain ⟨r, hr⟩ := State.topJava?_eq_some.mp hg0
  have hl9 : e.platform.stackLimits (T.setVm s.vm).me = e.platform.stackLimits s.me := X.limits
  have hb9 : (T.setVm s.vm).me.stackBytes = s.me.stackBytes := X.bytes
  refine ⟨X.admits, X.cas, X.clock, hF, ?_, X.hears, X.method, X.code, X.here, X.tail, X.warmed, ?_, ?_, ?_⟩
  · have h := X.room
    have hU : ((T.setVm s.vm).setFrames (.invoking m args :: below)).localsInUse = s.localsInUse := by
      rw [State.localsInUse_invoking hF (meth := meth) (c := c) X.method X.code, State.localsInUse_invoking X.frames X.method X.code]
    simp only [State.hasRoom, Bool.and_eq_true, decide_eq_true_eq] at h ⊢
    obtain ⟨⟨⟨⟨h1, h2, h3, h4, h5, h6⟩, h7⟩, h8⟩, h9⟩ := h
    rw [X.frames, List.length_cons] at h2 h3
    have q1 := X.heapSize
    have q2 := X.used
    simp only [hF, hU, List.length_cons, State.stackLimits_setFrames, State.stackBytes_setFrames, hl9, hb9]
    refine ⟨⟨⟨⟨by omega, by omega, by omega, by omega, by omega, h6⟩, ?_⟩, ?_⟩, X.book⟩
    · show T.heap.size + R'.cells ≤ e.platform.maxCells
      omega
    · show T.slotsUsed + R'.slots ≤ e.platform.maxSlots
      omega
  · rw [State.stackLimits_setFrames]; rfl
  · rw [State.stackBytes_setFrames]; rfl
  · refine ⟨?_, Nat.le_refl _, Nat.le_refl _, ?_, ?_, fun a c9 h9 => ⟨c9, h9, rfl, rfl, fun _ _ => rfl⟩⟩
    · obtain ⟨t, ht, -⟩ := State.frames_cons hr
      show T.setVm s.vm = { ((T.setVm s.vm).setFrames (.invoking m args :: below)).setFrames (T.setVm s.vm).frames with heap := T.heap, slotsUsed := T.slotsUsed }
      rw [State.setFrames_setFrames, State.setFrames_self ht]
      rfl
    · show T.slotsUsed = T.slotsUsed + ((T.heap.toList.drop T.heap.size).map (·.slots.size)).sum
      rw [List.drop_eq_nil_of_le (Nat.le_of_eq Array.length_toList)]
      rfl
    · show ((T.heap.toList.drop T.heap.size).map (·.slots.size)).sum ≤ 0
      rw [List.drop_eq_nil_of_le (Nat.le_of_eq Array.length_toList)]
      exact Nat.le_refl _
/-- 'throw new E()': new; dup; invokespecial; athrow -/
theorem vx_throw0 {cc : ByteArray} {pc : Nat} (hexec : p.tables.exec = Jvm.exec) (hb : c.code = cc) (hl : l.stackTraces = false) {own cls : String} {names : List String} {ik ic mc ms : Nat} {A : Nat → Prop}
    (hown : s.vm.findClass own = some m.cls) (hcls : Bundle.fit cls = true) (hnames : ∀ n ∈ names, Bundle.fit n = true)
    (hk : (Cond.classLink own ik cls).before args s = true) (hini : (Cond.initialized cls).before args s = true) (hat : ∀ w ∈ vx_at0 own ic cls names, w.before args s = true)
    (hgood : ∀ w ∈ Cond.classLink own ik cls :: Cond.initialized cls :: vx_at0 own ic cls names, vx_ot w = true)
    (hU : vx_Zq Bundle.tN "UNASSIGNED_STACK" Bundle.steD A s s.heap) (hN : vx_Zq Bundle.tN "SUPPRESSED_SENTINEL" Bundle.listD A s s.heap) (hS : va_S A s.heap H locs) (hsize : ls.size = c.maxLocals)
    (d0 : decode cc pc = .ok (.new ik, 3)) (d3 : decode cc (pc + 3) = .ok (.dup, 1)) (d4 : decode cc (pc + 4) = .ok (.invokespecial ic, 3)) (d7 : decode cc (pc + 7) = .ok (.athrow, 1))
    (hout : ∀ x ∈ c.exceptionTable.toList, covers x (pc + 7) = false)
    (hRframes : names.length + 3 < R.frames) (hRlocals : (rest.map fun v => v.category).sum + (13 * (names.length + 1) + 42) ≤ R.locals) (hRcells : cells + 1 ≤ R.cells) (hRslots : slots + 6 ≤ R.slots) (hlocks : meth.locks = false)
    (hx : ∀ t : State, s.vm.Alike t.vm → H.size ≤ t.heap.size → (∀ q : Nat, q < H.size → t.heap[q]? = H[q]?) → XC cls s t)
    (hf : ∀ z ∈ locs, free z.base) (hc : cells + 1 ≤ mc) (hs : slots + 6 ≤ ms) :
    W p l e R s m args below meth c H locs cells slots (vx_MQ below Qc XC args s mc ms free) (F0 m pc ls rest) := by
  intro T hT X
  have htr : e.platform.stackTraces = false := (show e.platform.stackTraces = l.stackTraces by rw [X.admits.platform]).trans hl
  have Y := vx_rebase X (R' := { frames := R.frames, locals := R.locals, cells := 1, slots := 6 }) (Nat.le_refl _) (Nat.le_refl _) hRcells hRslots
  obtain ⟨s', hA⟩ : ∃ z, z = (T.setVm s.vm).setFrames (.invoking m args :: below) := ⟨_, rfl⟩
  rw [← hA] at Y
  have hvm : s'.vm = s.vm := by rw [hA]; rfl
  have hhp : s'.heap = H := by rw [hA]; exact hT
  have hW0 : s.WarmedH s'.vm := by rw [hvm]; exact State.WarmedH.refl s
  have hat' : ∀ w ∈ vx_at0 own ic cls names, w.before args s' = true := fun w hw => vx_ot_at hW0 hvm.symm (hgood w (List.mem_cons_of_mem _ (List.mem_cons_of_mem _ hw))) (hat w hw)
  have hk' : (Cond.classLink own ik cls).before args s' = true := vx_ot_at hW0 hvm.symm (hgood _ List.mem_cons_self) hk
  have hini' : (Cond.initialized cls).before args s' = true := vx_ot_at hW0 hvm.symm (hgood _ (List.mem_cons_of_mem _ List.mem_cons_self)) hini
  have hU' : vx_Zq Bundle.tN "UNASSIGNED_STACK" Bundle.steD A s' s'.heap := by rw [hhp]; exact vx_Zq.moved hW0.alike (hU.kept hS.2.1)
  have hN' : vx_Zq Bundle.tN "SUPPRESSED_SENTINEL" Bundle.listD A s' s'.heap := by rw [hhp]; exact vx_Zq.moved hW0.alike (hN.kept hS.2.1)
  have h : ∀ w ∈ Bundle.ownAtoms0 own ic cls names, w.before args s' = true := vx_own hat' (vx_isRefq hU'.1) (vx_isRefq hN'.1) hU'.2.word hN'.2.word
  have hown' : s'.vm.findClass own = some m.cls := by rw [hvm]; exact hown
  have hins : (Cond.instantiable cls 6).before args s' = true := h _ (by simp [Bundle.ownAtoms0])
  obtain ⟨vm₁, cX, kX, hfX, hkX, -, -, X₁, st1⟩ := Y.newCold hexec (own := own) (C := cls) (index := ik) (n := 6) hown' hk' hins hini'
    (g := F0 m pc ls rest) rfl (by rw [hb]; exact d0) (Nat.le_refl _) (Nat.le_refl _)
  generalize hT1 : (T.setVm vm₁).pushCell { cls := cX, slots := kX.instanceTypes.map defaultValue, vm := .none } = T1 at X₁ st1
  have hcat : (Value.ref T.heap.size).category = 1 := rfl
  have hcellA : T1.heap[T.heap.size]? = some (freshCell cX kX) := by rw [← hT1]; exact State.heap_pushCell_size _ _
  have d3' : decode c.code (pc + 3) = .ok (.dup, 1) := by rw [hb]; exact d3
  obtain ⟨U, hsteps, hrun, hend, hW, hsame, ce, hce, hO⟩ := X₁.ctorThrow0 hexec htr (own := own) (cls := cls) (names := names) (ic := ic) hown' hcls hnames h (fun x hx => nomatch hx) hfX hkX hcellA (by rw [hhp, hT]; exact Nat.le_refl _)
    (g := { method := m, pc := pc + 4, locals := ls, stack := .ref T.heap.size :: .ref T.heap.size :: rest, locked := none }) rfl hsize rfl rfl (rest := rest) rfl
    (by rw [hb]; exact d4) (by rw [hb]; exact d7) hout hRframes (by simp only [List.map_cons, List.sum_cons, hcat]; omega) hlocks
  obtain ⟨f1, f2⟩ := vx_frame hsame
  rw [hhp] at f1 f2
  have hWs : s.WarmedH U.vm := State.WarmedH.trans hW0 hW
  have hcl : s.vm.findClass cls = some ce.cls := by
    have h9 := hO.cls
    rw [hvm] at h9
    exact h9
  have hall : s.sameButNew ({ U with vm := s.vm } : State) locs mc ms := by
    subst hA
    obtain ⟨e1, e2⟩ := hsame
    rw [State.setFrames_setFrames] at e1
    have h2 : (T.setVm s.vm).sameButNew ({ U with vm := s.vm } : State) [] (0 + 1) (0 + 6) := ⟨e1, e2⟩
    have h3 := X.same.trans h2
    rw [List.append_nil] at h3
    exact h3.mono hc hs
  refine ⟨U, ?_, .threw T.heap.size, hrun, hend, Or.inr ⟨T.heap.size, rfl, cls, ce, locs, hx U hWs.alike f1 (fun q hq => f2 q hq (fun z hz => nomatch hz)), hce, hO.vm, hcl, hWs, hall, hf⟩⟩
  refine st1 _ ?_
  show Steps p.tables e below (T1.setTop { method := m, pc := pc + 3, locals := ls, stack := .ref T.heap.size :: rest, locked := none }) _
  jvm_step X₁.here [X₁.here.top, hexec, d3', Value.category]
  exact hsteps
/-- 'throw new E("text")': new; dup; ldc; invokespecial; athrow -/
theorem vx_throwS {cc : ByteArray} {pc : Nat} (hexec : p.tables.exec = Jvm.exec) (hb : c.code = cc) (hl : l.stackTraces = false) {own cls text : String} {names : List String} {ik is ic mc ms sa : Nat} {A : Nat → Prop}
    (hown : s.vm.findClass own = some m.cls) (hcls : Bundle.fit cls = true) (hnames : ∀ n ∈ names, Bundle.fit n = true)
    (hk : (Cond.classLink own ik cls).before args s = true) (hini : (Cond.initialized cls).before args s = true) (hstr : vk_R own is text sa s) (hat : ∀ w ∈ vx_atS own ic cls names, w.before args s = true)
    (hgood : ∀ w ∈ Cond.classLink own ik cls :: Cond.initialized cls :: vx_atS own ic cls names, vx_ot w = true)
    (hU : vx_Zq Bundle.tN "UNASSIGNED_STACK" Bundle.steD A s s.heap) (hN : vx_Zq Bundle.tN "SUPPRESSED_SENTINEL" Bundle.listD A s s.heap) (hS : va_S A s.heap H locs) (hsize : ls.size = c.maxLocals)
    (d0 : decode cc pc = .ok (.new ik, 3)) (d3 : decode cc (pc + 3) = .ok (.dup, 1)) (d4 : decode cc (pc + 4) = .ok (.ldc is, 2)) (d6 : decode cc (pc + 6) = .ok (.invokespecial ic, 3)) (d9 : decode cc (pc + 9) = .ok (.athrow, 1))
    (hout : ∀ x ∈ c.exceptionTable.toList, covers x (pc + 9) = false)
    (hRframes : names.length + 3 < R.frames) (hRlocals : (rest.map fun v => v.category).sum + (13 * (names.length + 1) + 43) ≤ R.locals) (hRcells : cells + 1 ≤ R.cells) (hRslots : slots + 6 ≤ R.slots) (hlocks : meth.locks = false)
    (hx : ∀ t : State, s.vm.Alike t.vm → H.size ≤ t.heap.size → (∀ q : Nat, q < H.size → t.heap[q]? = H[q]?) → XC cls s t)
    (hf : ∀ z ∈ locs, free z.base) (hc : cells + 1 ≤ mc) (hs : slots + 6 ≤ ms) :
    W p l e R s m args below meth c H locs cells slots (vx_MQ below Qc XC args s mc ms free) (F0 m pc ls rest) := by
  intro T hT X
  have htr : e.platform.stackTraces = false := (show e.platform.stackTraces = l.stackTraces by rw [X.admits.platform]).trans hl
  have Y := vx_rebase X (R' := { frames := R.frames, locals := R.locals, cells := 1, slots := 6 }) (Nat.le_refl _) (Nat.le_refl _) hRcells hRslots
  obtain ⟨s', hA⟩ : ∃ z, z = (T.setVm s.vm).setFrames (.invoking m args :: below) := ⟨_, rfl⟩
  rw [← hA] at Y
  have hvm : s'.vm = s.vm := by rw [hA]; rfl
  have hhp : s'.heap = H := by rw [hA]; exact hT
  have hW0 : s.WarmedH s'.vm := by rw [hvm]; exact State.WarmedH.refl s
  have hat' : ∀ w ∈ vx_atS own ic cls names, w.before args s' = true := fun w hw => vx_ot_at hW0 hvm.symm (hgood w (List.mem_cons_of_mem _ (List.mem_cons_of_mem _ hw))) (hat w hw)
  have hk' : (Cond.classLink own ik cls).before args s' = true := vx_ot_at hW0 hvm.symm (hgood _ List.mem_cons_self) hk
  have hini' : (Cond.initialized cls).before args s' = true := vx_ot_at hW0 hvm.symm (hgood _ (List.mem_cons_of_mem _ List.mem_cons_self)) hini
  have hU' : vx_Zq Bundle.tN "UNASSIGNED_STACK" Bundle.steD A s' s'.heap := by rw [hhp]; exact vx_Zq.moved hW0.alike (hU.kept hS.2.1)
  have hN' : vx_Zq Bundle.tN "SUPPRESSED_SENTINEL" Bundle.listD A s' s'.heap := by rw [hhp]; exact vx_Zq.moved hW0.alike (hN.kept hS.2.1)
  have h : ∀ w ∈ Bundle.ownAtoms own ic cls names, w.before args s' = true := vx_own hat' (vx_isRefq hU'.1) (vx_isRefq hN'.1) hU'.2.word hN'.2.word
  have hown' : s'.vm.findClass own = some m.cls := by rw [hvm]; exact hown
  have hins : (Cond.instantiable cls 6).before args s' = true := h _ (by simp [Bundle.ownAtoms])
  obtain ⟨vm₁, cX, kX, hfX, hkX, -, -, X₁, st1⟩ := Y.newCold hexec (own := own) (C := cls) (index := ik) (n := 6) hown' hk' hins hini'
    (g := F0 m pc ls rest) rfl (by rw [hb]; exact d0) (Nat.le_refl _) (Nat.le_refl _)
  generalize hT1 : (T.setVm vm₁).pushCell { cls := cX, slots := kX.instanceTypes.map defaultValue, vm := .none } = T1 at X₁ st1
  have hcat : (Value.ref T.heap.size).category = 1 := rfl
  have hcellA : T1.heap[T.heap.size]? = some (freshCell cX kX) := by rw [← hT1]; exact State.heap_pushCell_size _ _
  have d3' : decode c.code (pc + 3) = .ok (.dup, 1) := by rw [hb]; exact d3
  have d4' : decode c.code (pc + 4) = .ok (.ldc is, 2) := by rw [hb]; exact d4
  have hstr' : vk_R own is text sa s' := vk_R.warm hW0 hstr
  obtain ⟨U, hsteps, hrun, hend, hW, hsame, ce, hce, hO⟩ := X₁.ctorThrowS hexec htr (own := own) (cls := cls) (names := names) (ic := ic) hown' hcls hnames h (fun x hx => nomatch hx) hfX hkX hcellA (by rw [hhp, hT]; exact Nat.le_refl _) (msg := .ref sa) rfl
    (g := { method := m, pc := pc + 6, locals := ls, stack := .ref sa :: .ref T.heap.size :: .ref T.heap.size :: rest, locked := none }) rfl hsize rfl rfl (rest := rest) rfl
    (by rw [hb]; exact d6) (by rw [hb]; exact d9) hout hRframes (by simp only [List.map_cons, List.sum_cons, hcat]; omega) hlocks
  obtain ⟨f1, f2⟩ := vx_frame hsame
  rw [hhp] at f1 f2
  have hWs : s.WarmedH U.vm := State.WarmedH.trans hW0 hW
  have hcl : s.vm.findClass cls = some ce.cls := by
    have h9 := hO.cls
    rw [hvm] at h9
    exact h9
  have hall : s.sameButNew ({ U with vm := s.vm } : State) locs mc ms := by
    subst hA
    obtain ⟨e1, e2⟩ := hsame
    rw [State.setFrames_setFrames] at e1
    have h2 : (T.setVm s.vm).sameButNew ({ U with vm := s.vm } : State) [] (0 + 1) (0 + 6) := ⟨e1, e2⟩
    have h3 := X.same.trans h2
    rw [List.append_nil] at h3
    exact h3.mono hc hs
  refine ⟨U, ?_, .threw T.heap.size, hrun, hend, Or.inr ⟨T.heap.size, rfl, cls, ce, locs, hx U hWs.alike f1 (fun q hq => f2 q hq (fun z hz => nomatch hz)), hce, hO.vm, hcl, hWs, hall, hf⟩⟩
  refine st1 _ ?_
  show Steps p.tables e below (T1.setTop { method := m, pc := pc + 3, locals := ls, stack := .ref T.heap.size :: rest, locked := none }) _
  jvm_step X₁.here [X₁.here.top, hexec, d3', Value.category]
  exact X₁.ldcString hexec (own := own) (text := text) (index := is) (a := sa) hown' hstr'.1 hstr'.2
    (g := { method := m, pc := pc + 4, locals := ls, stack := .ref T.heap.size :: .ref T.heap.size :: rest, locked := none }) rfl d4' _ hsteps
/-- 'throw new E("text")', the text by a wide index -/
theorem vx_throwSW {cc : ByteArray} {pc : Nat} (hexec : p.tables.exec = Jvm.exec) (hb : c.code = cc) (hl : l.stackTraces = false) {own cls text : String} {names : List String} {ik is ic mc ms sa : Nat} {A : Nat → Prop}
    (hown : s.vm.findClass own = some m.cls) (hcls : Bundle.fit cls = true) (hnames : ∀ n ∈ names, Bundle.fit n = true)
    (hk : (Cond.classLink own ik cls).before args s = true) (hini : (Cond.initialized cls).before args s = true) (hstr : vk_R own is text sa s) (hat : ∀ w ∈ vx_atS own ic cls names, w.before args s = true)
    (hgood : ∀ w ∈ Cond.classLink own ik cls :: Cond.initialized cls :: vx_atS own ic cls names, vx_ot w = true)
    (hU : vx_Zq Bundle.tN "UNASSIGNED_STACK" Bundle.steD A s s.heap) (hN : vx_Zq Bundle.tN "SUPPRESSED_SENTINEL" Bundle.listD A s s.heap) (hS : va_S A s.heap H locs) (hsize : ls.size = c.maxLocals)
    (d0 : decode cc pc = .ok (.new ik, 3)) (d3 : decode cc (pc + 3) = .ok (.dup, 1)) (d4 : decode cc (pc + 4) = .ok (.ldc_w is, 3)) (d7 : decode cc (pc + 7) = .ok (.invokespecial ic, 3)) (d10 : decode cc (pc + 10) = .ok (.athrow, 1))
    (hout : ∀ x ∈ c.exceptionTable.toList, covers x (pc + 10) = false)
    (hRframes : names.length + 3 < R.frames) (hRlocals : (rest.map fun v => v.category).sum + (13 * (names.length + 1) + 43) ≤ R.locals) (hRcells : cells + 1 ≤ R.cells) (hRslots : slots + 6 ≤ R.slots) (hlocks : meth.locks = false)
    (hx : ∀ t : State, s.vm.Alike t.vm → H.size ≤ t.heap.size → (∀ q : Nat, q < H.size → t.heap[q]? = H[q]?) → XC cls s t)
    (hf : ∀ z ∈ locs, free z.base) (hc : cells + 1 ≤ mc) (hs : slots + 6 ≤ ms) :
    W p l e R s m args below meth c H locs cells slots (vx_MQ below Qc XC args s mc ms free) (F0 m pc ls rest) := by
  intro T hT X
  have htr : e.platform.stackTraces = false := (show e.platform.stackTraces = l.stackTraces by rw [X.admits.platform]).trans hl
  have Y := vx_rebase X (R' := { frames := R.frames, locals := R.locals, cells := 1, slots := 6 }) (Nat.le_refl _) (Nat.le_refl _) hRcells hRslots
  obtain ⟨s', hA⟩ : ∃ z, z = (T.setVm s.vm).setFrames (.invoking m args :: below) := ⟨_, rfl⟩
  rw [← hA] at Y
  have hvm : s'.vm = s.vm := by rw [hA]; rfl
  have hhp : s'.heap = H := by rw [hA]; exact hT
  have hW0 : s.WarmedH s'.vm := by rw [hvm]; exact State.WarmedH.refl s
  have hat' : ∀ w ∈ vx_atS own ic cls names, w.before args s' = true := fun w hw => vx_ot_at hW0 hvm.symm (hgood w (List.mem_cons_of_mem _ (List.mem_cons_of_mem _ hw))) (hat w hw)
  have hk' : (Cond.classLink own ik cls).before args s' = true := vx_ot_at hW0 hvm.symm (hgood _ List.mem_cons_self) hk
  have hini' : (Cond.initialized cls).before args s' = true := vx_ot_at hW0 hvm.symm (hgood _ (List.mem_cons_of_mem _ List.mem_cons_self)) hini
  have hU' : vx_Zq Bundle.tN "UNASSIGNED_STACK" Bundle.steD A s' s'.heap := by rw [hhp]; exact vx_Zq.moved hW0.alike (hU.kept hS.2.1)
  have hN' : vx_Zq Bundle.tN "SUPPRESSED_SENTINEL" Bundle.listD A s' s'.heap := by rw [hhp]; exact vx_Zq.moved hW0.alike (hN.kept hS.2.1)
  have h : ∀ w ∈ Bundle.ownAtoms own ic cls names, w.before args s' = true := vx_own hat' (vx_isRefq hU'.1) (vx_isRefq hN'.1) hU'.2.word hN'.2.word
  have hown' : s'.vm.findClass own = some m.cls := by rw [hvm]; exact hown
  have hins : (Cond.instantiable cls 6).before args s' = true := h _ (by simp [Bundle.ownAtoms])
  obtain ⟨vm₁, cX, kX, hfX, hkX, -, -, X₁, st1⟩ := Y.newCold hexec (own := own) (C := cls) (index := ik) (n := 6) hown' hk' hins hini'
    (g := F0 m pc ls rest) rfl (by rw [hb]; exact d0) (Nat.le_refl _) (Nat.le_refl _)
  generalize hT1 : (T.setVm vm₁).pushCell { cls := cX, slots := kX.instanceTypes.map defaultValue, vm := .none } = T1 at X₁ st1
  have hcat : (Value.ref T.heap.size).category = 1 := rfl
  have hcellA : T1.heap[T.heap.size]? = some (freshCell cX kX) := by rw [← hT1]; exact State.heap_pushCell_size _ _
  have d3' : decode c.code (pc + 3) = .ok (.dup, 1) := by rw [hb]; exact d3
  have d4' : decode c.code (pc + 4) = .ok (.ldc_w is, 3) := by rw [hb]; exact d4
  have hstr' : vk_R own is text sa s' := vk_R.warm hW0 hstr
  obtain ⟨U, hsteps, hrun, hend, hW, hsame, ce, hce, hO⟩ := X₁.ctorThrowS hexec htr (own := own) (cls := cls) (names := names) (ic := ic) hown' hcls hnames h (fun x hx => nomatch hx) hfX hkX hcellA (by rw [hhp, hT]; exact Nat.le_refl _) (msg := .ref sa) rfl
    (g := { method := m, pc := pc + 7, locals := ls, stack := .ref sa :: .ref T.heap.size :: .ref T.heap.size :: rest, locked := none }) rfl hsize rfl rfl (rest := rest) rfl
    (by rw [hb]; exact d7) (by rw [hb]; exact d10) hout hRframes (by simp only [List.map_cons, List.sum_cons, hcat]; omega) hlocks
  obtain ⟨f1, f2⟩ := vx_frame hsame
  rw [hhp] at f1 f2
  have hWs : s.WarmedH U.vm := State.WarmedH.trans hW0 hW
  have hcl : s.vm.findClass cls = some ce.cls := by
    have h9 := hO.cls
    rw [hvm] at h9
    exact h9
  have hall : s.sameButNew ({ U with vm := s.vm } : State) locs mc ms := by
    subst hA
    obtain ⟨e1, e2⟩ := hsame
    rw [State.setFrames_setFrames] at e1
    have h2 : (T.setVm s.vm).sameButNew ({ U with vm := s.vm } : State) [] (0 + 1) (0 + 6) := ⟨e1, e2⟩
    have h3 := X.same.trans h2
    rw [List.append_nil] at h3
    exact h3.mono hc hs
  refine ⟨U, ?_, .threw T.heap.size, hrun, hend, Or.inr ⟨T.heap.size, rfl, cls, ce, locs, hx U hWs.alike f1 (fun q hq => f2 q hq (fun z hz => nomatch hz)), hce, hO.vm, hcl, hWs, hall, hf⟩⟩
  refine st1 _ ?_
  show Steps p.tables e below (T1.setTop { method := m, pc := pc + 3, locals := ls, stack := .ref T.heap.size :: rest, locked := none }) _
  jvm_step X₁.here [X₁.here.top, hexec, d3', Value.category]
  exact X₁.ldcStringW hexec (own := own) (text := text) (index := is) (a := sa) hown' hstr'.1 hstr'.2
    (g := { method := m, pc := pc + 4, locals := ls, stack := .ref T.heap.size :: .ref T.heap.size :: rest, locked := none }) rfl d4' _ hsteps
end Ends
section Bodies
variable {l : Launch}
theorem vx_ofW {y : MethodName} {ws ws' : List Cond} {rm : Room} {Pc : Array Value → State → Prop} {Qc : Array Value → State → Outcome → State → Prop} {XC : String → State → State → Prop} {mc ms : Nat} {free : Addr → Prop} {cc : ByteArray} {maxL : Nat} {ret : Option FieldType}
    (hy : plainName y.cls = true) (hw : ws = Cond.code y cc maxL ret :: ws')
    (body : ∀ p e s m args below meth c s₁, BodyLoose p l y (headSpec ws rm) cc maxL ret e s m args below meth c s₁ → c.maxLocals = maxL → (∀ x ∈ c.exceptionTable.toList, False) → Pc args s →
      W p l e (headSpec ws rm).room s m args below meth c s.heap [] 0 0 (vx_MQ below Qc XC args s mc ms free) (entryFrame m args maxL)) : vx_Met l y ws rm Pc Qc XC mc ms free := by
  refine MetFree.of_bodyS (code := cc) (maxLocals := maxL) (ret := ret) hy ?_ ?_
  · intro args s m h hn
    obtain ⟨meth, c, h1, h2, h3, h4, h5, h6, -, -⟩ := Cond.code_spec hn (atoms_spec (ws := ws) h _ (by rw [hw]; exact List.mem_cons_self))
    exact ⟨meth, c, h1, h2, h3, h4, h5, h6⟩
  · intro p e s m args below meth c s₁ B hml hP _
    have hh0 : s₁.heap = s.heap := by rw [B.state]; rfl
    have ht : ∀ x ∈ c.exceptionTable.toList, False := by
      obtain ⟨meth9, c9, h1, h2, -, -, -, -, h7, -⟩ := Cond.code_spec B.named (atoms_spec (ws := ws) B.pre _ (by rw [hw]; exact List.mem_cons_self))
      cases Option.some.inj (h1.symm.trans B.method)
      cases Option.some.inj (h2.symm.trans (Stand.of_body B).code)
      intro x hx
      rw [Array.isEmpty_iff.mp h7] at hx
      cases hx
    obtain ⟨t, a1, o, b1, b2, b3⟩ := body p e s m args below meth c s₁ B hml ht hP s₁ hh0 (Stand.of_body B)
    exact ⟨t, o, a1, b1, b2, b3⟩
/-- the table of a body with handlers -/
theorem vx_table {p : Program} {x y : MethodName} {S : Spec} {cc bytes : ByteArray} {maxL maxL' : Nat} {ret ret' : Option FieldType} {e : Env} {s s₁ : State} {m : MethodId} {args : Array Value} {below : List Frame} {meth : Method} {c : Code} {hh : List (Nat × Nat × Nat × Nat)}
    (B : BodyLoose p l y S cc maxL ret e s m args below meth c s₁) (h : (Cond.codeWith y bytes maxL' ret' hh).before args s = true) : c.exceptionTable.toList = tableOf hh := by
  obtain ⟨m9, meth9, c9, hn9, h1, h2, -, -, h6, -⟩ := Cond.codeWith_spec h
  cases Option.some.inj (hn9.symm.trans B.named)
  cases Option.some.inj (h1.symm.trans B.method)
  cases Option.some.inj (h2.symm.trans (Stand.of_body B).code)
  rw [← h6, table_eq]
end Bodies
end VXA
/-! ===== END ===== -/
/-! ===== BEGIN a static call of a method with an exception table ===== -/
section VXS
variable {p : Program} {l : Launch} {e : Env} {R : Room} {s : State} {m : MethodId} {args : Array Value} {below : List Frame} {meth : Method} {c : Code} {T : State} {H : Heap} {locs : List Loc} {cells slots : Nat}
abbrev vx_CSW (R : Room) (s : State) (args : Array Value) (own : String) (index : Nat) (y : MethodName) (bytes : ByteArray) (maxL : Nat) (ret : Option FieldType) (hh : List (Nat × Nat × Nat × Nat)) (ws : List Cond) (rm : Room) (mc ms n : Nat) : Prop :=
  (rm.cells = mc ∧ rm.slots = ms ∧ rm.frames + 1 ≤ R.frames ∧ 8 + (maxL + 11) + rm.locals ≤ R.locals ∧ (∀ w ∈ ws, ∀ (a' : Array Value) (U : State), s.WarmedH U.vm → w.before a' U = true) ∧ Cond.codeWith y bytes maxL ret hh ∈ ws) ∧
  (Cond.codeWith y bytes maxL ret hh).before args s = true ∧ (Cond.initialized y.cls).before args s = true ∧ (y.cls ≠ "java/lang/invoke/MethodHandle" ∧ y.cls ≠ "java/lang/invoke/VarHandle") ∧
  (∀ sig, parseMethodDescriptor y.desc = some sig → n = sig.parameters.length) ∧ (Cond.methodLink own index y).before args s = true ∧ (Cond.static y).before args s = true
theorem vx_cwSW {own : String} {index maxL mc ms : Nat} {y : MethodName} {bytes : ByteArray} {ret : Option FieldType} {hh : List (Nat × Nat × Nat × Nat)} {Ts ws ws' : List Cond} {rm : Room} (n : Nat) (ht : ∀ w ∈ Ts, w.before args s = true) (hT : GoodIn Ts (va_wsS own index y ws)) (hw : ws = Cond.codeWith y bytes maxL ret hh :: ws') (hrc : rm.cells = mc) (hrs : rm.slots = ms)
    (hd : y.cls ≠ "java/lang/invoke/MethodHandle" ∧ y.cls ≠ "java/lang/invoke/VarHandle" ∧ (parseMethodDescriptor y.desc).map (fun d => d.parameters.length) = some n) (hR : rm.frames + 1 ≤ R.frames ∧ 8 + (maxL + 11) + rm.locals ≤ R.locals) :
    vx_CSW R s args own index y bytes maxL ret hh ws rm mc ms n := by
  have ok : ∀ w ∈ va_wsS own index y ws, w.before args s = true := fun w h => ht w (hT w h).1
  have hG : GoodIn Ts ws := fun w h => hT w (by unfold va_wsS; exact List.mem_append_right _ h)
  have hc : Cond.codeWith y bytes maxL ret hh ∈ ws := by rw [hw]; exact List.mem_cons_self
  refine ⟨⟨hrc, hrs, hR.1, hR.2, pay_in ht hG, hc⟩, ht _ (hG _ hc).1, ok _ (by simp [va_wsS]), ⟨hd.1, hd.2.1⟩, fun sig h => ?_, ok _ (by simp [va_wsS]), ok _ (by simp [va_wsS])⟩
  have h2 := hd.2.2
  rw [h] at h2
  exact (Option.some.inj h2).symm
theorem vx_callSW (X : Stand p l e R s m args below meth c T locs cells slots) (hexec : p.tables.exec = Jvm.exec) {own : String} {index : Nat} {y : MethodName} {bytes : ByteArray} {maxL : Nat} {ret : Option FieldType} {hh : List (Nat × Nat × Nat × Nat)}
    (hown : s.vm.findClass own = some m.cls) (hlink : (Cond.methodLink own index y).before args s = true) (hstat : (Cond.static y).before args s = true) (hinit : (Cond.initialized y.cls).before args s = true)
    (hcode : (Cond.codeWith y bytes maxL ret hh).before args s = true) (hy : y.cls ≠ "java/lang/invoke/MethodHandle" ∧ y.cls ≠ "java/lang/invoke/VarHandle")
    {W9 : Nat} {Pre : Pt → Array Value → Prop} {Post : Pt → Array Value → Option Value → Pt → Prop} (hK : Back l R p e below s args y 3 W9 Pre Post)
    {g : JFrame} (hg : g.method = m) (hsize : g.locals.size = c.maxLocals) {argsL rest : List Value} (hlen : ∀ sig, parseMethodDescriptor y.desc = some sig → argsL.length = sig.parameters.length)
    (hstack : g.stack = argsL.reverse ++ rest) (hW : 2 * g.monitorRoom + (rest.map fun v => v.category).sum ≤ W9) (hdg : decode c.code g.pc = .ok (.invokestatic index, 3))
    (hpre : ∀ vm₁, s.WarmedH vm₁ → Pre ⟨T.setVm vm₁, locs, cells, slots⟩ argsL.toArray) :
    ∃ (v : Option Value) (vm₁ : Vm) (B : Pt), s.WarmedH vm₁ ∧ Stand p l e R s m args below meth c B.U B.locs B.cells B.slots ∧ Post ⟨T.setVm vm₁, locs, cells, slots⟩ argsL.toArray v B ∧
      ∀ target, Steps p.tables e below (B.U.setTop { g with pc := g.pc + 3, stack := v.toList ++ rest }) target → Steps p.tables e below (T.setTop g) target := by
  obtain ⟨mk, methM, cM, hnamed, hmethM, -, -, -, -, -, -, hsigM⟩ := Cond.codeWith_spec hcode
  have hstatic : methM.isStatic = true := Cond.static_spec hnamed hmethM hstat
  obtain ⟨kP, hkP, -⟩ := className_of_methodNamed hnamed
  have hinitP : kP.init = .initialized := Cond.initialized_spec (findClass_of_methodNamed hnamed) hkP hinit
  obtain ⟨vm₁, X₁, hstep₁⟩ := X.invokestatic hexec hown hlink hnamed hmethM hstatic hkP hinitP hy (g := g) hg (argsL := argsL) (rest := rest) (hlen _ hsigM) hstack hdg
  obtain ⟨v, B, X', hpost, hsteps⟩ := hK m meth c ⟨T.setVm vm₁, locs, cells, slots⟩ { g with stack := rest } (.invokestatic index) mk argsL.toArray X₁ hg hsize hdg hW (X₁.named hnamed) (hpre vm₁ X₁.warmed)
  exact ⟨v, vm₁, B, X₁.warmed, X', hpost, fun target h => hstep₁ _ fun acts => by rw [doInvoke_state]; exact hsteps.trans h⟩
theorem vx_runSW {y : MethodName} {bytes cc : ByteArray} {maxL nL mc ms n index : Nat} {ret : Option FieldType} {hh : List (Nat × Nat × Nat × Nat)} {ws : List Cond} {rm : Room} {Pc : Array Value → State → Prop} {Qc : Array Value → State → Outcome → State → Prop} {free : Addr → Prop} {Ts : List Cond} {own : String} {As rest : List Value} {g : JFrame}
    (S : CallFix p m c cc nL s args Ts own) (hM : Met l y ws rm Pc Qc mc ms free) (cw : vx_CSW R s args own index y bytes maxL ret hh ws rm mc ms n) (hp : PreS s H Pc As)
    (hg : g.method = m) (hn : As.length = n) (hsize : g.locals.size = nL) (hstack : g.stack = As.reverse ++ rest) (hW : 2 * g.monitorRoom + (rest.map fun v => v.category).sum ≤ 8) (hdg : decode cc g.pc = .ok (.invokestatic index, 3)) (hf : cells + mc ≤ R.cells ∧ slots + ms ≤ R.slots) :
    va_Run p l e R s m args below meth c H locs cells slots mc ms g rest (Qc As.toArray) (free) := by
  obtain ⟨⟨hrc, hrs, hfr, hlo, hws, hcw⟩, hcode, hini, hy, hlen, hl, hstt⟩ := cw
  have hK : Back l R p e below s args y 3 8 (PreOf R mc ms Pc) (PostOf Qc mc ms free) := va_backW (hh := hh) (bytes := bytes) (maxL := maxL) (ret := ret) hM hp.1 hrc hrs hfr hlo hws hcw (fun a' U hW => word_at hW (Or.inl (by first | rfl | simp [Cond.onTables, Cond.keeps, Cond.steady])) hini)
  obtain ⟨hx, hb, hml, ho, -⟩ := S
  intro T hT X
  obtain ⟨v, vm₁, ⟨U', l2, c2, s2⟩, hW₁, X', ⟨g', mk, t, L, e1, e2, hq, h1, hL, h2, h3⟩, st⟩ := vx_callSW X hx (hh := hh) (bytes := bytes) (maxL := maxL) (ret := ret) ho hl hstt hini hcode hy hK hg (hsize.trans hml.symm) (argsL := As) (rest := rest) (fun sig h => hn.trans (hlen sig h)) hstack hW (by rw [hb]; exact hdg)
    (fun vm₁ hW₁ => ⟨hf.1, hf.2, hp.2 (T.setVm vm₁) hT hW₁⟩)
  dsimp only [Pt.U, Pt.locs, Pt.cells, Pt.slots] at X' e1 e2 h1 h2 h3 st
  subst h1; subst h2; subst h3
  exact ⟨v, (T.setVm vm₁).calling g' mk As.toArray, t, U', L, hT, X', hL, e1, e2, hq, st⟩
/-- not caught here, past rows that name other classes: it goes on to the caller -/
theorem vx_outP {p : Program} {l : Launch} {e : Env} {R : Room} {s : State} {m : MethodId} {args : Array Value} {below : List Frame} {meth : Method} {c : Code} {H : Heap} {locs : List Loc} {cells slots : Nat} {free : Addr → Prop} {ls : Array Slot} {rest : List Value} {Qc : Array Value → State → Outcome → State → Prop} {XC : String → State → State → Prop}
    {pc : Nat} {own E : String} {ce : Cell} {q : Addr} {mc ms : Nat} (hown : s.vm.findClass own = some m.cls) (hlocks : meth.locks = false)
    (hpass : ∀ z ∈ c.exceptionTable.toList, covers z pc = false ∨ (z.catchType ≠ 0 ∧ ∃ nm : String, (Cond.classLink own z.catchType nm).before args s = true ∧ va_Nc E nm s)) (hcell : H[q]? = some ce) (hv : ce.vm = .none) (hcl : s.vm.findClass E = some ce.cls)
    (hx : ∀ t : State, t.heap = H → s.vm.Alike t.vm → XC E s t) (hf : ∀ z ∈ locs, free z.base) (hc : cells ≤ mc) (hs : slots ≤ ms) :
    vx_W p l e R s m args below meth c H locs cells slots (vx_MQ below Qc XC args s mc ms free) (F0 m pc ls rest) q := by
  intro T hT X
  have hpl : e.platform.magicAccessors = ({} : Platform).magicAccessors := by rw [X.admits.platform]
  obtain ⟨vm', hW', X', st⟩ := X.outThrough hlocks q (g := F0 m pc ls rest) rfl rfl rfl (cell := ce) (by rw [hT]; exact hcell) (by rw [hv]; rfl)
    (by obtain ⟨k9, h9, -⟩ := Vm.findClass_spec hcl; exact ⟨k9, h9⟩) (fun z hz => by
      rcases hpass z hz with h | ⟨hz0, nm, hl1, hn1⟩
      · exact Or.inl h
      · obtain ⟨c6, hc6, hcl6⟩ := Cond.classLink_spec hown hl1 e.platform hpl
        obtain ⟨a8, b8, h1, h2, h3⟩ := hn1
        cases Option.some.inj (h1.symm.trans hcl)
        cases Option.some.inj (h2.symm.trans hc6)
        exact Or.inr ⟨hz0, _, hcl6, h3⟩)
  obtain ⟨g₀, hfr⟩ := X'.frames_eq
  have hcell9 : ((T.setVm vm').setFrames (.throwing q :: below)).heap[q]? = some ce := by
    show T.heap[q]? = some ce
    rw [hT]; exact hcell
  have hend : Ended ((T.setVm vm').setFrames (.throwing q :: below)) below (.threw q) := State.frames_setFrames _ (State.cur_lt_of_frames hfr)
  refine ⟨(T.setVm vm').setFrames (.throwing q :: below), ?_, .threw q, X'.here.running, hend, Or.inr ⟨q, rfl, E, ce, locs, hx _ hT (X'.ends _).1.alike, hcell9, hv, hcl, (X'.ends _).1, (X'.ends _).2.mono hc hs, hf⟩⟩
  rw [X.pushThrowing_eq]
  exact st
/-- a thing of a world lies in the heap -/
theorem vx_lt {D : va_G} {cl : List vw_C} {ws : va_W} {H1 : Heap} (h : va_P D cl ws H1) {k : Nat} {q : Nat × va_E} (hk : ws[k]? = some q) : q.1 < H1.size := (h k q hk).lt
end VXS
/-! ===== END ===== -/
/-! ===== BEGIN methods with a table of their own: called by a name, returning or throwing ===== -/
section VXH
/-! vx_backW, vx_callVX, vx_callSX, vx_callVW, vx_runVW, vx_runVX, vx_runSX, vx_ofWH follow the same proofs as their sisters above (Free/Laws.lean, Shelf42/LK1.lean); vx_outP calls Shelf42/NT130.lean (outThrough). -/
section
variable {l : Launch} {R : Room} {p : Program} {e : Env} {below : List Frame} {s : State} {sargs : Array Value} {y : MethodName} {len W9 : Nat}
theorem vx_backW {ws : List Cond} {rm : Room} {Pc : Array Value → State → Prop} {Qc : Array Value → State → Outcome → State → Prop} {XC : String → State → State → Prop} {mc ms : Nat} {free : Addr → Prop} {bytes : ByteArray} {maxL : Nat} {ret : Option FieldType} {hh : List (Nat × Nat × Nat × Nat)}
    (hM : vx_Met l y ws rm Pc Qc XC mc ms free) (hblind : FrameBlind Pc) (hrc : rm.cells = mc) (hrs : rm.slots = ms)
    (hframes : rm.frames + 1 ≤ R.frames) (hlocals : W9 + (maxL + 11) + rm.locals ≤ R.locals)
    (hws : ∀ w ∈ ws, ∀ a' U, s.WarmedH U.vm → w.before a' U = true) (hcode : Cond.codeWith y bytes maxL ret hh ∈ ws) (hinit : ∀ a' U, s.WarmedH U.vm → (Cond.initialized y.cls).before a' U = true) :
    vx_Back l R p e below s sargs y len W9 (PreOf R mc ms Pc) (PostOf Qc mc ms free) (vx_Post XC mc ms free) := by
  intro m meth c A g ig mk a X hg hsize hdg hW hn hp
  have h1 : (headSpec ws rm).pre.before a A.U = true := atoms_intro fun w hw => hws w hw _ _ X.warmed
  have h2 : (Cond.codeWith y bytes maxL ret hh).before a A.U = true := hws _ hcode _ _ X.warmed
  have h3 : (Cond.initialized y.cls).before a A.U = true := hinit _ _ X.warmed
  have h4 : A.cells + (headSpec ws rm).room.cells ≤ R.cells := by rw [show (headSpec ws rm).room.cells = mc from hrc]; exact hp.1
  have h5 : A.slots + (headSpec ws rm).room.slots ≤ R.slots := by rw [show (headSpec ws rm).room.slots = ms from hrs]; exact hp.2.1
  have hPc : Pc a (A.U.calling g mk a) := hblind _ _ _ _ hp.2.2
  obtain ⟨U, Ls, c0, s0⟩ := A
  dsimp only [Pt.U, Pt.locs, Pt.cells, Pt.slots] at h1 h2 h3 h4 h5 X hn hPc ⊢
  obtain ⟨m9, methY, cY, hn9, hmY, hcY, -, hlY, -⟩ := Cond.codeWith_spec h2
  cases Option.some.inj (hn9.symm.trans hn)
  obtain ⟨kY, hkY, -⟩ := className_of_methodNamed hn
  have hinitY : kY.init = .initialized := Cond.initialized_spec (findClass_of_methodNamed hn) hkY h3
  have h : At U g.method c below := by rw [hg]; exact X.here
  have hlocals9 : W9 + (maxL + 11) + (headSpec ws rm).room.locals ≤ R.locals := hlocals
  have happ : (headSpec ws rm).appliesLoose y e.platform (U.calling g mk a) = true :=
    Spec.appliesLoose_calling (g := g) h hdg hn hkY hinitY
      (X.room_calling (g := g) (R' := (headSpec ws rm).room) hsize hmY hcY hframes (by rw [hlY]; omega) h4 h5) h1
  obtain ⟨mid, hmid⟩ := h.above
  have hfr : (U.setTop g).frames = (.java g :: mid) ++ below := by rw [State.frames_setTop' g h.top, hmid]; rfl
  obtain ⟨o, s₂, hsteps, -, hend, hq⟩ := Steps.callFree hM p X.admits X.cas X.clock (acts := []) hfr happ hPc trivial
  have hq' : vx_Q Qc XC mc ms free a (U.calling g mk a) o s₂ := hq
  rw [State.frames_setTop' g h.top] at hend
  obtain ⟨g₀, hg0⟩ := Option.isSome_iff_exists.mp h.top
  obtain ⟨r, hr⟩ := State.topJava?_eq_some.mp hg0
  have hr' : (({ U with heap := s₂.heap, slotsUsed := s₂.slotsUsed } : State).setVm s₂.vm).frames = .java g₀ :: r := hr
  rcases hq' with ⟨hqc, L, hfe, hL⟩ | ⟨q, rfl, E, ce, L, hx, hce, hcv, hcl, hW₂, hsm, hL⟩
  · obtain ⟨⟨v, rfl⟩, hW₂, e2, q2, q3, q4, q5, q6⟩ := id hfe
    have e3 : s₂ = ({ (U.calling g mk a).setFrames s₂.frames with heap := s₂.heap, slotsUsed := s₂.slotsUsed } : State).setVm s₂.vm := by
      have : s₂ = ({ s₂ with vm := (U.calling g mk a).vm } : State).setVm s₂.vm := rfl
      rw [e2] at this
      exact this
    obtain ⟨c₂, i₂, len₂, hc₂, hd₂, hf₂⟩ := hend
    have hW' : U.WarmedH s₂.vm := hW₂
    have hcc : c₂ = c := by
      have h1 : s₂.code? g.method = U.code? g.method := by
        rw [State.code?_eq, State.code?_eq, hW'.alike.method?]
      exact Option.some.inj (hc₂.symm.trans (h1.trans h.code))
    subst hcc
    have hlen : len₂ = len := by rw [hdg] at hd₂; cases hd₂; rfl
    subst hlen
    have hs₂ : s₂ = (({ U with heap := s₂.heap, slotsUsed := s₂.slotsUsed } : State).setVm s₂.vm).setTop { g with pc := g.pc + len₂, stack := v.toList ++ g.stack } := by
      refine e3.trans ?_
      rw [hf₂, State.calling_eq h.top, State.setFrames_setFrames, State.setTop_of_frames _ hr', hr]
      rfl
    have hsame : U.sameButNew ({ U with heap := s₂.heap, slotsUsed := s₂.slotsUsed } : State) L mc ms := by
      refine ⟨?_, q2, q3, q4, q5, q6⟩
      obtain ⟨t, ht, -⟩ := State.frames_cons hr
      show ({ U with heap := s₂.heap, slotsUsed := s₂.slotsUsed } : State) = { U.setFrames U.frames with heap := s₂.heap, slotsUsed := s₂.slotsUsed }
      rw [State.setFrames_self ht]
    subst hg
    refine Or.inl ⟨v, ⟨(({ U with heap := s₂.heap, slotsUsed := s₂.slotsUsed } : State).setVm s₂.vm), Ls ++ L, c0 + mc, s0 + ms⟩,
      ⟨X.admits, X.cas, X.clock, X.frames, X.room, X.hears, X.method, X.code, (X.here.setHeapUsed s₂.heap s₂.slotsUsed).setVm hW'.alike, X.tail, State.WarmedH.trans X.warmed hW', X.limits, X.bytes, X.same.trans (hsame.setVm s.vm)⟩,
      ⟨g, mk, s₂, L, rfl, rfl, hqc, rfl, hL, rfl, rfl⟩, ?_⟩
    show Steps p.tables e below _ ((({ U with heap := s₂.heap, slotsUsed := s₂.slotsUsed } : State).setVm s₂.vm).setTop { g with pc := g.pc + len₂, stack := v.toList ++ g.stack })
    rw [← hs₂]
    exact hsteps
  · obtain ⟨e2, q2, q3, q4, q5, q6⟩ := id hsm
    have e3 : s₂ = ({ (U.calling g mk a).setFrames s₂.frames with heap := s₂.heap, slotsUsed := s₂.slotsUsed } : State).setVm s₂.vm := by
      have : s₂ = ({ s₂ with vm := (U.calling g mk a).vm } : State).setVm s₂.vm := rfl
      rw [e2] at this
      exact this
    have hf₂ : s₂.frames = .throwing q :: .java g :: U.frames.tail := hend
    have hW' : U.WarmedH s₂.vm := hW₂
    have hs₂ : s₂ = ((({ U with heap := s₂.heap, slotsUsed := s₂.slotsUsed } : State).setVm s₂.vm).setTop g).pushFrame (.throwing q) := by
      refine e3.trans ?_
      rw [hf₂, State.calling_eq h.top, State.setFrames_setFrames, State.pushFrame, State.frames_setTop _ hr', State.setTop_of_frames _ hr', State.setFrames_setFrames, hr]
      rfl
    have hsame : U.sameButNew ({ U with heap := s₂.heap, slotsUsed := s₂.slotsUsed } : State) L mc ms := by
      refine ⟨?_, q2, q3, q4, q5, q6⟩
      obtain ⟨t, ht, -⟩ := State.frames_cons hr
      show ({ U with heap := s₂.heap, slotsUsed := s₂.slotsUsed } : State) = { U.setFrames U.frames with heap := s₂.heap, slotsUsed := s₂.slotsUsed }
      rw [State.setFrames_self ht]
    subst hg
    refine Or.inr ⟨q, ⟨(({ U with heap := s₂.heap, slotsUsed := s₂.slotsUsed } : State).setVm s₂.vm), Ls ++ L, c0 + mc, s0 + ms⟩,
      ⟨X.admits, X.cas, X.clock, X.frames, X.room, X.hears, X.method, X.code, (X.here.setHeapUsed s₂.heap s₂.slotsUsed).setVm hW'.alike, X.tail, State.WarmedH.trans X.warmed hW', X.limits, X.bytes, X.same.trans (hsame.setVm s.vm)⟩,
      ⟨g, mk, s₂, L, E, ce, rfl, rfl, hx, hce, hcv, hcl, rfl, hL, rfl, rfl⟩, ?_⟩
    show Steps p.tables e below _ (((({ U with heap := s₂.heap, slotsUsed := s₂.slotsUsed } : State).setVm s₂.vm).setTop g).pushFrame (.throwing q))
    rw [← hs₂]
    exact hsteps
end
variable {p : Program} {l : Launch} {e : Env} {R : Room} {s : State} {m : MethodId} {args : Array Value} {below : List Frame} {meth : Method} {c : Code} {T : State} {H : Heap} {locs : List Loc} {cells slots : Nat}
theorem vx_callVX (X : Stand p l e R s m args below meth c T locs cells slots) (hexec : p.tables.exec = Jvm.exec) {own C : String} {index : Nat} {y : MethodName} {bytes : ByteArray} {maxL : Nat} {ret : Option FieldType} {hh : List (Nat × Nat × Nat × Nat)}
    (hown : s.vm.findClass own = some m.cls) (hlink : (Cond.methodLink own index y).before args s = true) (hinst : (Cond.instanceMethod y).before args s = true) (hsel : (Cond.selects C y y).before args s = true)
    (hcode : (Cond.codeWith y bytes maxL ret hh).before args s = true) (hy : y.cls ≠ "java/lang/invoke/MethodHandle" ∧ y.cls ≠ "java/lang/invoke/VarHandle")
    {W9 : Nat} {Pre : Pt → Array Value → Prop} {Post : Pt → Array Value → Option Value → Pt → Prop} {PostX : Pt → Array Value → Addr → Pt → Prop} (hK : vx_Back l R p e below s args y 3 W9 Pre Post PostX)
    {b : Addr} {cellB : Cell} (hcell : T.heap[b]? = some cellB) (hobj : cellB.vm.isStatics = false) (hcls : s.vm.findClass C = some cellB.cls)
    {g : JFrame} (hg : g.method = m) (hsize : g.locals.size = c.maxLocals) {argsL rest : List Value} (hlen : ∀ sig, parseMethodDescriptor y.desc = some sig → argsL.length = sig.parameters.length)
    (hstack : g.stack = argsL.reverse ++ .ref b :: rest) (hW : 2 * g.monitorRoom + (rest.map fun v => v.category).sum ≤ W9) (hdg : decode c.code g.pc = .ok (.invokevirtual index, 3))
    (hpre : ∀ vm₁, s.WarmedH vm₁ → Pre ⟨T.setVm vm₁, locs, cells, slots⟩ (Value.ref b :: argsL).toArray) :
    (∃ (v : Option Value) (vm₁ : Vm) (B : Pt), s.WarmedH vm₁ ∧ Stand p l e R s m args below meth c B.U B.locs B.cells B.slots ∧ Post ⟨T.setVm vm₁, locs, cells, slots⟩ (Value.ref b :: argsL).toArray v B ∧
      ∀ target, Steps p.tables e below (B.U.setTop { g with pc := g.pc + 3, stack := v.toList ++ rest }) target → Steps p.tables e below (T.setTop g) target) ∨
    (∃ (q : Addr) (vm₁ : Vm) (B : Pt), s.WarmedH vm₁ ∧ Stand p l e R s m args below meth c B.U B.locs B.cells B.slots ∧ PostX ⟨T.setVm vm₁, locs, cells, slots⟩ (Value.ref b :: argsL).toArray q B ∧
      Steps p.tables e below (T.setTop g) ((B.U.setTop { g with stack := rest }).pushFrame (.throwing q))) := by
  obtain ⟨mk, methM, hnamed, hmethM, hstM, habM⟩ := Cond.instanceMethod_spec hinst
  obtain ⟨m8, methM', cM, hn8, hmethM', -, -, -, -, -, -, hsigM⟩ := Cond.codeWith_spec hcode
  cases Option.some.inj (hn8.symm.trans hnamed)
  cases hmethM.symm.trans hmethM'
  obtain ⟨c2, r2, m2, q1, q2, q3, q4, kP, hkP, hkPi⟩ := Cond.selects_spec hsel
  cases hcls.symm.trans q1
  cases (State.methodFound?_of_named hnamed hy).symm.trans q2
  cases hnamed.symm.trans q3
  have hselP : selectMethod e.platform s.vm cellB.cls mk = .method mk := by rw [Launch.admits_selectMethod X.admits]; exact q4
  obtain ⟨vm₁, X₁, hstep₁⟩ := X.invokevirtual hexec hown hlink hnamed hmethM hstM hkP hkPi hy (a := b) (cell := cellB) hcell
    (fun z h => by rw [h] at hobj; cases hobj) hselP hmethM habM hkP hkPi (g := g) hg (argsL := argsL) (rest := rest) (hlen _ hsigM) hstack hdg
  rcases hK m meth c ⟨T.setVm vm₁, locs, cells, slots⟩ { g with stack := rest } (.invokevirtual index) mk (Value.ref b :: argsL).toArray X₁ hg hsize hdg hW (X₁.named hnamed) (hpre vm₁ X₁.warmed) with ⟨v, B, X', hpost, hsteps⟩ | ⟨q, B, X', hpost, hsteps⟩
  · exact Or.inl ⟨v, vm₁, B, X₁.warmed, X', hpost, fun target h => hstep₁ _ fun acts => by rw [doInvoke_state]; exact hsteps.trans h⟩
  · exact Or.inr ⟨q, vm₁, B, X₁.warmed, X', hpost, hstep₁ _ fun acts => by rw [doInvoke_state]; exact hsteps⟩
theorem vx_callSX (X : Stand p l e R s m args below meth c T locs cells slots) (hexec : p.tables.exec = Jvm.exec) {own : String} {index : Nat} {y : MethodName} {bytes : ByteArray} {maxL : Nat} {ret : Option FieldType} {hh : List (Nat × Nat × Nat × Nat)}
    (hown : s.vm.findClass own = some m.cls) (hlink : (Cond.methodLink own index y).before args s = true) (hstat : (Cond.static y).before args s = true) (hinit : (Cond.initialized y.cls).before args s = true)
    (hcode : (Cond.codeWith y bytes maxL ret hh).before args s = true) (hy : y.cls ≠ "java/lang/invoke/MethodHandle" ∧ y.cls ≠ "java/lang/invoke/VarHandle")
    {W9 : Nat} {Pre : Pt → Array Value → Prop} {Post : Pt → Array Value → Option Value → Pt → Prop} {PostX : Pt → Array Value → Addr → Pt → Prop} (hK : vx_Back l R p e below s args y 3 W9 Pre Post PostX)
    {g : JFrame} (hg : g.method = m) (hsize : g.locals.size = c.maxLocals) {argsL rest : List Value} (hlen : ∀ sig, parseMethodDescriptor y.desc = some sig → argsL.length = sig.parameters.length)
    (hstack : g.stack = argsL.reverse ++ rest) (hW : 2 * g.monitorRoom + (rest.map fun v => v.category).sum ≤ W9) (hdg : decode c.code g.pc = .ok (.invokestatic index, 3))
    (hpre : ∀ vm₁, s.WarmedH vm₁ → Pre ⟨T.setVm vm₁, locs, cells, slots⟩ argsL.toArray) :
    (∃ (v : Option Value) (vm₁ : Vm) (B : Pt), s.WarmedH vm₁ ∧ Stand p l e R s m args below meth c B.U B.locs B.cells B.slots ∧ Post ⟨T.setVm vm₁, locs, cells, slots⟩ argsL.toArray v B ∧
      ∀ target, Steps p.tables e below (B.U.setTop { g with pc := g.pc + 3, stack := v.toList ++ rest }) target → Steps p.tables e below (T.setTop g) target) ∨
    (∃ (q : Addr) (vm₁ : Vm) (B : Pt), s.WarmedH vm₁ ∧ Stand p l e R s m args below meth c B.U B.locs B.cells B.slots ∧ PostX ⟨T.setVm vm₁, locs, cells, slots⟩ argsL.toArray q B ∧
      Steps p.tables e below (T.setTop g) ((B.U.setTop { g with stack := rest }).pushFrame (.throwing q))) := by
  obtain ⟨mk, methM, cM, hnamed, hmethM, -, -, -, -, -, -, hsigM⟩ := Cond.codeWith_spec hcode
  have hstatic : methM.isStatic = true := Cond.static_spec hnamed hmethM hstat
  obtain ⟨kP, hkP, -⟩ := className_of_methodNamed hnamed
  have hinitP : kP.init = .initialized := Cond.initialized_spec (findClass_of_methodNamed hnamed) hkP hinit
  obtain ⟨vm₁, X₁, hstep₁⟩ := X.invokestatic hexec hown hlink hnamed hmethM hstatic hkP hinitP hy (g := g) hg (argsL := argsL) (rest := rest) (hlen _ hsigM) hstack hdg
  rcases hK m meth c ⟨T.setVm vm₁, locs, cells, slots⟩ { g with stack := rest } (.invokestatic index) mk argsL.toArray X₁ hg hsize hdg hW (X₁.named hnamed) (hpre vm₁ X₁.warmed) with ⟨v, B, X', hpost, hsteps⟩ | ⟨q, B, X', hpost, hsteps⟩
  · exact Or.inl ⟨v, vm₁, B, X₁.warmed, X', hpost, fun target h => hstep₁ _ fun acts => by rw [doInvoke_state]; exact hsteps.trans h⟩
  · exact Or.inr ⟨q, vm₁, B, X₁.warmed, X', hpost, hstep₁ _ fun acts => by rw [doInvoke_state]; exact hsteps⟩
theorem vx_callVW (X : Stand p l e R s m args below meth c T locs cells slots) (hexec : p.tables.exec = Jvm.exec) {own C : String} {index : Nat} {y : MethodName} {bytes : ByteArray} {maxL : Nat} {ret : Option FieldType} {hh : List (Nat × Nat × Nat × Nat)}
    (hown : s.vm.findClass own = some m.cls) (hlink : (Cond.methodLink own index y).before args s = true) (hinst : (Cond.instanceMethod y).before args s = true) (hsel : (Cond.selects C y y).before args s = true)
    (hcode : (Cond.codeWith y bytes maxL ret hh).before args s = true) (hy : y.cls ≠ "java/lang/invoke/MethodHandle" ∧ y.cls ≠ "java/lang/invoke/VarHandle")
    {W9 : Nat} {Pre : Pt → Array Value → Prop} {Post : Pt → Array Value → Option Value → Pt → Prop} (hK : Back l R p e below s args y 3 W9 Pre Post)
    {b : Addr} {cellB : Cell} (hcell : T.heap[b]? = some cellB) (hobj : cellB.vm.isStatics = false) (hcls : s.vm.findClass C = some cellB.cls)
    {g : JFrame} (hg : g.method = m) (hsize : g.locals.size = c.maxLocals) {argsL rest : List Value} (hlen : ∀ sig, parseMethodDescriptor y.desc = some sig → argsL.length = sig.parameters.length)
    (hstack : g.stack = argsL.reverse ++ .ref b :: rest) (hW : 2 * g.monitorRoom + (rest.map fun v => v.category).sum ≤ W9) (hdg : decode c.code g.pc = .ok (.invokevirtual index, 3))
    (hpre : ∀ vm₁, s.WarmedH vm₁ → Pre ⟨T.setVm vm₁, locs, cells, slots⟩ (Value.ref b :: argsL).toArray) :
    ∃ (v : Option Value) (vm₁ : Vm) (B : Pt), s.WarmedH vm₁ ∧ Stand p l e R s m args below meth c B.U B.locs B.cells B.slots ∧ Post ⟨T.setVm vm₁, locs, cells, slots⟩ (Value.ref b :: argsL).toArray v B ∧
      ∀ target, Steps p.tables e below (B.U.setTop { g with pc := g.pc + 3, stack := v.toList ++ rest }) target → Steps p.tables e below (T.setTop g) target := by
  obtain ⟨mk, methM, hnamed, hmethM, hstM, habM⟩ := Cond.instanceMethod_spec hinst
  obtain ⟨m8, methM', cM, hn8, hmethM', -, -, -, -, -, -, hsigM⟩ := Cond.codeWith_spec hcode
  cases Option.some.inj (hn8.symm.trans hnamed)
  cases hmethM.symm.trans hmethM'
  obtain ⟨c2, r2, m2, q1, q2, q3, q4, kP, hkP, hkPi⟩ := Cond.selects_spec hsel
  cases hcls.symm.trans q1
  cases (State.methodFound?_of_named hnamed hy).symm.trans q2
  cases hnamed.symm.trans q3
  have hselP : selectMethod e.platform s.vm cellB.cls mk = .method mk := by rw [Launch.admits_selectMethod X.admits]; exact q4
  obtain ⟨vm₁, X₁, hstep₁⟩ := X.invokevirtual hexec hown hlink hnamed hmethM hstM hkP hkPi hy (a := b) (cell := cellB) hcell
    (fun z h => by rw [h] at hobj; cases hobj) hselP hmethM habM hkP hkPi (g := g) hg (argsL := argsL) (rest := rest) (hlen _ hsigM) hstack hdg
  obtain ⟨v, B, X', hpost, hsteps⟩ := hK m meth c ⟨T.setVm vm₁, locs, cells, slots⟩ { g with stack := rest } (.invokevirtual index) mk (Value.ref b :: argsL).toArray X₁ hg hsize hdg hW (X₁.named hnamed) (hpre vm₁ X₁.warmed)
  exact ⟨v, vm₁, B, X₁.warmed, X', hpost, fun target h => hstep₁ _ fun acts => by rw [doInvoke_state]; exact hsteps.trans h⟩
abbrev vx_CVW (R : Room) (s : State) (args : Array Value) (own C : String) (index : Nat) (y : MethodName) (bytes : ByteArray) (maxL : Nat) (ret : Option FieldType) (hh : List (Nat × Nat × Nat × Nat)) (ws : List Cond) (rm : Room) (mc ms n : Nat) : Prop :=
  (rm.cells = mc ∧ rm.slots = ms ∧ rm.frames + 1 ≤ R.frames ∧ 8 + (maxL + 11) + rm.locals ≤ R.locals ∧ (∀ w ∈ ws, ∀ (a' : Array Value) (U : State), s.WarmedH U.vm → w.before a' U = true) ∧ Cond.codeWith y bytes maxL ret hh ∈ ws) ∧
  (Cond.codeWith y bytes maxL ret hh).before args s = true ∧ (Cond.initialized y.cls).before args s = true ∧ (y.cls ≠ "java/lang/invoke/MethodHandle" ∧ y.cls ≠ "java/lang/invoke/VarHandle") ∧
  (∀ sig, parseMethodDescriptor y.desc = some sig → n = sig.parameters.length) ∧ (Cond.methodLink own index y).before args s = true ∧ (Cond.instanceMethod y).before args s = true ∧ (Cond.selects C y y).before args s = true
theorem vx_cwVW {own C : String} {index maxL mc ms : Nat} {y : MethodName} {bytes : ByteArray} {ret : Option FieldType} {hh : List (Nat × Nat × Nat × Nat)} {Ts ws ws' : List Cond} {rm : Room} (n : Nat) (ht : ∀ w ∈ Ts, w.before args s = true) (hT : GoodIn Ts (wsV own index C y ws)) (hw : ws = Cond.codeWith y bytes maxL ret hh :: ws') (hrc : rm.cells = mc) (hrs : rm.slots = ms)
    (hd : y.cls = C ∧ y.cls ≠ "java/lang/invoke/MethodHandle" ∧ y.cls ≠ "java/lang/invoke/VarHandle" ∧ (parseMethodDescriptor y.desc).map (fun d => d.parameters.length) = some n) (hR : rm.frames + 1 ≤ R.frames ∧ 8 + (maxL + 11) + rm.locals ≤ R.locals) :
    vx_CVW R s args own C index y bytes maxL ret hh ws rm mc ms n := by
  obtain ⟨hC, hd⟩ := hd
  subst hC
  have ok : ∀ w ∈ wsV own index y.cls y ws, w.before args s = true := fun w h => ht w (hT w h).1
  have hG : GoodIn Ts ws := fun w h => hT w (by unfold wsV; exact List.mem_append_right _ h)
  have hc : Cond.codeWith y bytes maxL ret hh ∈ ws := by rw [hw]; exact List.mem_cons_self
  refine ⟨⟨hrc, hrs, hR.1, hR.2, pay_in ht hG, hc⟩, ht _ (hG _ hc).1, ok _ (by simp [wsV]), ⟨hd.1, hd.2.1⟩, fun sig h => ?_, ok _ (by simp [wsV]), ok _ (by simp [wsV]), ok _ (by simp [wsV])⟩
  have h2 := hd.2.2
  rw [h] at h2
  exact (Option.some.inj h2).symm
theorem vx_runVW {y : MethodName} {bytes cc : ByteArray} {maxL nL mc ms n index : Nat} {ret : Option FieldType} {hh : List (Nat × Nat × Nat × Nat)} {ws : List Cond} {rm : Room} {Pc : Array Value → State → Prop} {Qc : Array Value → State → Outcome → State → Prop} {free : Addr → Prop} {Ts : List Cond} {own C : String} {b : Addr} {As rest : List Value} {g : JFrame}
    (S : CallFix p m c cc nL s args Ts own) (hM : Met l y ws rm Pc Qc mc ms free) (cw : vx_CVW R s args own C index y bytes maxL ret hh ws rm mc ms n) (hp : PreV s H C b Pc As)
    (hg : g.method = m) (hn : As.length = n) (hsize : g.locals.size = nL) (hstack : g.stack = As.reverse ++ .ref b :: rest) (hW : 2 * g.monitorRoom + (rest.map fun v => v.category).sum ≤ 8) (hdg : decode cc g.pc = .ok (.invokevirtual index, 3)) (hf : cells + mc ≤ R.cells ∧ slots + ms ≤ R.slots) :
    va_Run p l e R s m args below meth c H locs cells slots mc ms g rest (Qc (Value.ref b :: As).toArray) free := by
  obtain ⟨⟨hrc, hrs, hfr, hlo, hws, hcw⟩, hcode, hini, hy, hlen, hl, hin, hse⟩ := cw
  have hK : Back l R p e below s args y 3 8 (PreOf R mc ms Pc) (PostOf Qc mc ms free) := va_backW (hh := hh) (bytes := bytes) (maxL := maxL) (ret := ret) hM hp.1 hrc hrs hfr hlo hws hcw (fun a' U hW => word_at hW (Or.inl (by first | rfl | simp [Cond.onTables, Cond.keeps, Cond.steady])) hini)
  obtain ⟨hx, hb, hml, ho, -⟩ := S
  obtain ⟨-, ⟨cellB, hcB, hoB, hclB⟩, hPc⟩ := hp
  intro T hT X
  obtain ⟨v, vm₁, ⟨U', l2, c2, s2⟩, hW₁, X', ⟨g', mk, t, L, e1, e2, hq, h1, hL, h2, h3⟩, st⟩ := vx_callVW X hx (C := C) (hh := hh) (bytes := bytes) (maxL := maxL) (ret := ret) ho hl hin hse hcode hy hK (by rw [hT]; exact hcB) hoB hclB hg (hsize.trans hml.symm) (argsL := As) (rest := rest) (fun sig h => hn.trans (hlen sig h)) hstack hW (by rw [hb]; exact hdg)
    (fun vm₁ hW₁ => ⟨hf.1, hf.2, hPc (T.setVm vm₁) hT hW₁⟩)
  dsimp only [Pt.U, Pt.locs, Pt.cells, Pt.slots] at X' e1 e2 h1 h2 h3 st
  subst h1; subst h2; subst h3
  exact ⟨v, (T.setVm vm₁).calling g' mk (Value.ref b :: As).toArray, t, U', L, hT, X', hL, e1, e2, hq, st⟩
section
variable {y : MethodName} {bytes cc : ByteArray} {maxL nL mc ms n index : Nat} {ret : Option FieldType} {ws : List Cond} {rm : Room} {Pc : Array Value → State → Prop} {Qc : Array Value → State → Outcome → State → Prop} {XC : String → State → State → Prop} {free : Addr → Prop} {Ts : List Cond} {own C : String} {b : Addr} {As rest : List Value} {g : JFrame}
theorem vx_runVX {hh : List (Nat × Nat × Nat × Nat)} (S : CallFix p m c cc nL s args Ts own) (hM : vx_Met l y ws rm Pc Qc XC mc ms free) (cw : vx_CVW R s args own C index y bytes maxL ret hh ws rm mc ms n) (hp : PreV s H C b Pc As)
    (hg : g.method = m) (hn : As.length = n) (hsize : g.locals.size = nL) (hstack : g.stack = As.reverse ++ .ref b :: rest) (hW : 2 * g.monitorRoom + (rest.map fun v => v.category).sum ≤ 8) (hdg : decode cc g.pc = .ok (.invokevirtual index, 3)) (hf : cells + mc ≤ R.cells ∧ slots + ms ≤ R.slots) :
    vx_Run p l e R s m args below meth c H locs cells slots mc ms g rest (Qc (Value.ref b :: As).toArray) XC free := by
  obtain ⟨⟨hrc, hrs, hfr, hlo, hws, hcw⟩, hcode, hini, hy, hlen, hl, hin, hse⟩ := cw
  have hK : vx_Back l R p e below s args y 3 8 (PreOf R mc ms Pc) (PostOf Qc mc ms free) (vx_Post XC mc ms free) := vx_backW (hh := hh) (bytes := bytes) (maxL := maxL) (ret := ret) hM hp.1 hrc hrs hfr hlo hws hcw (fun a' U hW => word_at hW (Or.inl (by first | rfl | simp [Cond.onTables, Cond.keeps, Cond.steady])) hini)
  obtain ⟨hx, hb, hml, ho, -⟩ := S
  obtain ⟨-, ⟨cellB, hcB, hoB, hclB⟩, hPc⟩ := hp
  intro T hT X
  rcases vx_callVX X hx (C := C) (hh := hh) (bytes := bytes) (maxL := maxL) (ret := ret) ho hl hin hse hcode hy hK (by rw [hT]; exact hcB) hoB hclB hg (hsize.trans hml.symm) (argsL := As) (rest := rest) (fun sig h => hn.trans (hlen sig h)) hstack hW (by rw [hb]; exact hdg)
    (fun vm₁ hW₁ => ⟨hf.1, hf.2, hPc (T.setVm vm₁) hT hW₁⟩) with ⟨v, vm₁, ⟨U', l2, c2, s2⟩, hW₁, X', ⟨g', mk, t, L, e1, e2, hq, h1, hL, h2, h3⟩, st⟩ | ⟨q, vm₁, ⟨U', l2, c2, s2⟩, hW₁, X', ⟨g', mk, t, L, E, ce, e1, e2, hq, hce, hcv, hcl, h1, hL, h2, h3⟩, st⟩
  · dsimp only [Pt.U, Pt.locs, Pt.cells, Pt.slots] at X' e1 e2 h1 h2 h3 st
    subst h1; subst h2; subst h3
    exact Or.inl ⟨v, (T.setVm vm₁).calling g' mk (Value.ref b :: As).toArray, t, U', L, hT, X', hL, e1, e2, hq, st⟩
  · dsimp only [Pt.U, Pt.locs, Pt.cells, Pt.slots] at X' e1 e2 h1 h2 h3 st hcl
    subst h1; subst h2; subst h3
    exact Or.inr ⟨q, (T.setVm vm₁).calling g' mk (Value.ref b :: As).toArray, t, U', L, E, ce, hT, X', hL, e1, e2, hq, hce, hcv, vx_cls hW₁ hcl, st⟩
theorem vx_runSX {hh : List (Nat × Nat × Nat × Nat)} (S : CallFix p m c cc nL s args Ts own) (hM : vx_Met l y ws rm Pc Qc XC mc ms free) (cw : vx_CSW R s args own index y bytes maxL ret hh ws rm mc ms n) (hp : PreS s H Pc As)
    (hg : g.method = m) (hn : As.length = n) (hsize : g.locals.size = nL) (hstack : g.stack = As.reverse ++ rest) (hW : 2 * g.monitorRoom + (rest.map fun v => v.category).sum ≤ 8) (hdg : decode cc g.pc = .ok (.invokestatic index, 3)) (hf : cells + mc ≤ R.cells ∧ slots + ms ≤ R.slots) :
    vx_Run p l e R s m args below meth c H locs cells slots mc ms g rest (Qc As.toArray) XC free := by
  obtain ⟨⟨hrc, hrs, hfr, hlo, hws, hcw⟩, hcode, hini, hy, hlen, hl, hstt⟩ := cw
  have hK : vx_Back l R p e below s args y 3 8 (PreOf R mc ms Pc) (PostOf Qc mc ms free) (vx_Post XC mc ms free) := vx_backW (hh := hh) (bytes := bytes) (maxL := maxL) (ret := ret) hM hp.1 hrc hrs hfr hlo hws hcw (fun a' U hW => word_at hW (Or.inl (by first | rfl | simp [Cond.onTables, Cond.keeps, Cond.steady])) hini)
  obtain ⟨hx, hb, hml, ho, -⟩ := S
  intro T hT X
  rcases vx_callSX X hx (hh := hh) (bytes := bytes) (maxL := maxL) (ret := ret) ho hl hstt hini hcode hy hK hg (hsize.trans hml.symm) (argsL := As) (rest := rest) (fun sig h => hn.trans (hlen sig h)) hstack hW (by rw [hb]; exact hdg)
    (fun vm₁ hW₁ => ⟨hf.1, hf.2, hp.2 (T.setVm vm₁) hT hW₁⟩) with ⟨v, vm₁, ⟨U', l2, c2, s2⟩, hW₁, X', ⟨g', mk, t, L, e1, e2, hq, h1, hL, h2, h3⟩, st⟩ | ⟨q, vm₁, ⟨U', l2, c2, s2⟩, hW₁, X', ⟨g', mk, t, L, E, ce, e1, e2, hq, hce, hcv, hcl, h1, hL, h2, h3⟩, st⟩
  · dsimp only [Pt.U, Pt.locs, Pt.cells, Pt.slots] at X' e1 e2 h1 h2 h3 st
    subst h1; subst h2; subst h3
    exact Or.inl ⟨v, (T.setVm vm₁).calling g' mk As.toArray, t, U', L, hT, X', hL, e1, e2, hq, st⟩
  · dsimp only [Pt.U, Pt.locs, Pt.cells, Pt.slots] at X' e1 e2 h1 h2 h3 st hcl
    subst h1; subst h2; subst h3
    exact Or.inr ⟨q, (T.setVm vm₁).calling g' mk As.toArray, t, U', L, E, ce, hT, X', hL, e1, e2, hq, hce, hcv, vx_cls hW₁ hcl, st⟩
end
end VXH
theorem vx_ofWH {l : Launch} {y : MethodName} {ws ws' : List Cond} {rm : Room} {Pc : Array Value → State → Prop} {Qc : Array Value → State → Outcome → State → Prop} {XC : String → State → State → Prop} {mc ms : Nat} {free : Addr → Prop} {cc : ByteArray} {maxL : Nat} {ret : Option FieldType} {hh : List (Nat × Nat × Nat × Nat)}
    (hy : plainName y.cls = true) (hw : ws = Cond.codeWith y cc maxL ret hh :: ws')
    (body : ∀ p e s m args below meth c s₁, BodyLoose p l y (headSpec ws rm) cc maxL ret e s m args below meth c s₁ → c.maxLocals = maxL → Pc args s →
      W p l e (headSpec ws rm).room s m args below meth c s.heap [] 0 0 (vx_MQ below Qc XC args s mc ms free) (entryFrame m args maxL)) : vx_Met l y ws rm Pc Qc XC mc ms free := by
  refine MetFree.of_bodyS (code := cc) (maxLocals := maxL) (ret := ret) hy ?_ ?_
  · intro args s m h hn
    obtain ⟨m9, meth, c, hn9, h1, h2, h3, h4, -, h5, h6, -⟩ := Cond.codeWith_spec (atoms_spec (ws := ws) h _ (by rw [hw]; exact List.mem_cons_self))
    cases hn.symm.trans hn9
    exact ⟨meth, c, h1, h2, h3, h4, h5, h6⟩
  · intro p e s m args below meth c s₁ B hml hP _
    have hh0 : s₁.heap = s.heap := by rw [B.state]; rfl
    obtain ⟨t, a1, o, b1, b2, b3⟩ := body p e s m args below meth c s₁ B hml hP s₁ hh0 (Stand.of_body B)
    exact ⟨t, o, a1, b1, b2, b3⟩
/-! ===== END ===== -/

/-! ===== BEGIN printed: names, fields, word lists, decode rows ===== -/
def RX0 : String := "WardrobeKeeper"
def TX0 : u_T := fun k => match k with
  | 0 => ("WardrobeKeeper", "kinds", "[I", true)
  | 1 => ("WardrobeKeeper", "colours", "[I", true)
  | 2 => ("WardrobeKeeper", "warmths", "[I", true)
  | 3 => ("WardrobeKeeper", "wearsWhenClean", "[I", true)
  | 4 => ("WardrobeKeeper", "cares", "[I", true)
  | 5 => ("WardrobeKeeper", "wearsLeft", "[I", true)
  | 6 => ("WardrobeKeeper", "added", "I", false)
  | 7 => ("WardrobeKeeper", "owned", "I", false)
  | 8 => ("WardrobeKeeper", "today", "I", false)
  | 9 => ("WardrobeKeeper", "clashes", "J", false)
  | 10 => ("WardrobeKeeper", "freeFrom", "[I", true)
  | _ => ("WardrobeKeeper", "partners", "[I", true)
def tyX0 : Nat → FieldType := fun k => match k with
  | 0 => .array .int
  | 1 => .array .int
  | 2 => .array .int
  | 3 => .array .int
  | 4 => .array .int
  | 5 => .array .int
  | 6 => .int
  | 7 => .int
  | 8 => .int
  | 9 => .long
  | 10 => .array .int
  | _ => .array .int
abbrev wsX00 : List Cond := u_ws RX0 TX0 12
theorem nmX0 : ∀ a, a < 12 → ∀ b, b < 12 → a ≠ b → (TX0 a).2.1 ≠ (TX0 b).2.1 := by decide +kernel
theorem tyX0_ok : ∀ k, k < 12 → parseFieldDescriptor (TX0 k).2.2.1 = some (tyX0 k) := by decide +kernel
abbrev cX0_init : ByteArray := prog_1_method_1_code
def yX0_init : MethodName := ⟨RX0, "<init>", "()V"⟩
abbrev cX0_add : ByteArray := prog_1_method_2_code
def yX0_add : MethodName := ⟨RX0, "add", "(IIIII)I"⟩
abbrev cX0_giveAway : ByteArray := prog_1_method_3_code
def yX0_giveAway : MethodName := ⟨RX0, "giveAway", "(I)I"⟩
abbrev cX0_setClash : ByteArray := prog_1_method_4_code
def yX0_setClash : MethodName := ⟨RX0, "setClash", "(IIZ)Z"⟩
abbrev cX0_things : ByteArray := prog_1_method_5_code
def yX0_things : MethodName := ⟨RX0, "things", "()I"⟩
abbrev cX0_left : ByteArray := prog_1_method_6_code
def yX0_left : MethodName := ⟨RX0, "left", "(I)I"⟩
abbrev cX0_isPossible : ByteArray := prog_1_method_7_code
def yX0_isPossible : MethodName := ⟨RX0, "isPossible", "(III)Z"⟩
abbrev cX0_isTooSoon : ByteArray := prog_1_method_8_code
def yX0_isTooSoon : MethodName := ⟨RX0, "isTooSoon", "(III)Z"⟩
abbrev cX0_wear : ByteArray := prog_1_method_9_code
def yX0_wear : MethodName := ⟨RX0, "wear", "(IIII)I"⟩
abbrev cX0_outfits : ByteArray := prog_1_method_10_code
def yX0_outfits : MethodName := ⟨RX0, "outfits", "(I)I"⟩
abbrev cX0_adds : ByteArray := prog_1_method_11_code
def yX0_adds : MethodName := ⟨RX0, "adds", "(II)I"⟩
abbrev cX0_missingTop : ByteArray := prog_1_method_12_code
def yX0_missingTop : MethodName := ⟨RX0, "missingTop", "()I"⟩
abbrev cX0_outfitFor : ByteArray := prog_1_method_13_code
def yX0_outfitFor : MethodName := ⟨RX0, "outfitFor", "(II)I"⟩
abbrev cX0_load : ByteArray := prog_1_method_14_code
def yX0_load : MethodName := ⟨RX0, "load", "(IZ)I"⟩
abbrev cX0_wash : ByteArray := prog_1_method_15_code
def yX0_wash : MethodName := ⟨RX0, "wash", "(IZ)I"⟩
abbrev cX0_pass : ByteArray := prog_1_method_16_code
def yX0_pass : MethodName := ⟨RX0, "pass", "(I)I"⟩
abbrev cX0_isEnough : ByteArray := prog_1_method_17_code
def yX0_isEnough : MethodName := ⟨RX0, "isEnough", "(III)Z"⟩
abbrev cX0_bag : ByteArray := prog_1_method_18_code
def yX0_bag : MethodName := ⟨RX0, "bag", "(II)I"⟩
abbrev cX0_isWithin : ByteArray := prog_1_method_19_code
def yX0_isWithin : MethodName := ⟨RX0, "isWithin", "(III)Z"⟩
abbrev cX0_isColour : ByteArray := prog_1_method_20_code
def yX0_isColour : MethodName := ⟨RX0, "isColour", "(I)Z"⟩
abbrev cX0_isCare : ByteArray := prog_1_method_21_code
def yX0_isCare : MethodName := ⟨RX0, "isCare", "(I)Z"⟩
abbrev cX0_arePeople : ByteArray := prog_1_method_22_code
def yX0_arePeople : MethodName := ⟨RX0, "arePeople", "(I)Z"⟩
abbrev cX0_isOutfitWarmth : ByteArray := prog_1_method_23_code
def yX0_isOutfitWarmth : MethodName := ⟨RX0, "isOutfitWarmth", "(I)Z"⟩
abbrev cX0_isBagQuestion : ByteArray := prog_1_method_24_code
def yX0_isBagQuestion : MethodName := ⟨RX0, "isBagQuestion", "(II)Z"⟩
abbrev cX0_isThing : ByteArray := prog_1_method_25_code
def yX0_isThing : MethodName := ⟨RX0, "isThing", "(I)Z"⟩
abbrev cX0_areThings : ByteArray := prog_1_method_26_code
def yX0_areThings : MethodName := ⟨RX0, "areThings", "(III)Z"⟩
abbrev cX0_isOfKind : ByteArray := prog_1_method_27_code
def yX0_isOfKind : MethodName := ⟨RX0, "isOfKind", "(II)Z"⟩
abbrev cX0_areOfTheirKinds : ByteArray := prog_1_method_28_code
def yX0_areOfTheirKinds : MethodName := ⟨RX0, "areOfTheirKinds", "(III)Z"⟩
abbrev cX0_wearsLeftOf : ByteArray := prog_1_method_29_code
def yX0_wearsLeftOf : MethodName := ⟨RX0, "wearsLeftOf", "(I)I"⟩
abbrev cX0_warmthOf : ByteArray := prog_1_method_30_code
def yX0_warmthOf : MethodName := ⟨RX0, "warmthOf", "(I)I"⟩
abbrev cX0_isCleanOfKind : ByteArray := prog_1_method_31_code
def yX0_isCleanOfKind : MethodName := ⟨RX0, "isCleanOfKind", "(II)Z"⟩
abbrev cX0_wearOnce : ByteArray := prog_1_method_32_code
def yX0_wearOnce : MethodName := ⟨RX0, "wearOnce", "(I)V"⟩
abbrev cX0_makeClean : ByteArray := prog_1_method_33_code
def yX0_makeClean : MethodName := ⟨RX0, "makeClean", "(I)V"⟩
abbrev cX0_clashBit : ByteArray := prog_1_method_34_code
def yX0_clashBit : MethodName := ⟨RX0, "clashBit", "(II)J"⟩
abbrev cX0_coloursClash : ByteArray := prog_1_method_35_code
def yX0_coloursClash : MethodName := ⟨RX0, "coloursClash", "(II)Z"⟩
abbrev cX0_doClash : ByteArray := prog_1_method_36_code
def yX0_doClash : MethodName := ⟨RX0, "doClash", "(II)Z"⟩
abbrev cX0_canBeWorn : ByteArray := prog_1_method_37_code
def yX0_canBeWorn : MethodName := ⟨RX0, "canBeWorn", "(III)Z"⟩
abbrev cX0_fitsOver : ByteArray := prog_1_method_38_code
def yX0_fitsOver : MethodName := ⟨RX0, "fitsOver", "(III)Z"⟩
abbrev cX0_outfitWarmth : ByteArray := prog_1_method_39_code
def yX0_outfitWarmth : MethodName := ⟨RX0, "outfitWarmth", "(III)I"⟩
abbrev cX0_isWarmOutfit : ByteArray := prog_1_method_40_code
def yX0_isWarmOutfit : MethodName := ⟨RX0, "isWarmOutfit", "(IIII)Z"⟩
abbrev cX0_countOutfitsOf : ByteArray := prog_1_method_41_code
def yX0_countOutfitsOf : MethodName := ⟨RX0, "countOutfitsOf", "(III)I"⟩
abbrev cX0_countBottomsFor : ByteArray := prog_1_method_42_code
def yX0_countBottomsFor : MethodName := ⟨RX0, "countBottomsFor", "(I)I"⟩
abbrev cX0_firstSeat : ByteArray := prog_1_method_43_code
def yX0_firstSeat : MethodName := ⟨RX0, "firstSeat", "(II)I"⟩
abbrev cX0_wasSeenLately : ByteArray := prog_1_method_44_code
def yX0_wasSeenLately : MethodName := ⟨RX0, "wasSeenLately", "(III)Z"⟩
abbrev cX0_showTo : ByteArray := prog_1_method_45_code
def yX0_showTo : MethodName := ⟨RX0, "showTo", "(III)V"⟩
abbrev cX0_isWashedWith : ByteArray := prog_1_method_46_code
def yX0_isWashedWith : MethodName := ⟨RX0, "isWashedWith", "(IIZ)Z"⟩
abbrev cX0_nextToWash : ByteArray := prog_1_method_47_code
def yX0_nextToWash : MethodName := ⟨RX0, "nextToWash", "(IZ)I"⟩
abbrev cX0_thingsOfKind : ByteArray := prog_1_method_48_code
def yX0_thingsOfKind : MethodName := ⟨RX0, "thingsOfKind", "(I)I"⟩
abbrev cX0_findPartners : ByteArray := prog_1_method_49_code
def yX0_findPartners : MethodName := ⟨RX0, "findPartners", "(I)V"⟩
abbrev cX0_arePartners : ByteArray := prog_1_method_50_code
def yX0_arePartners : MethodName := ⟨RX0, "arePartners", "(III)Z"⟩
abbrev cX0_usefulThings : ByteArray := prog_1_method_51_code
def yX0_usefulThings : MethodName := ⟨RX0, "usefulThings", "()I"⟩
abbrev cX0_partnersOf : ByteArray := prog_1_method_52_code
def yX0_partnersOf : MethodName := ⟨RX0, "partnersOf", "(I)I"⟩
abbrev cX0_wearsLeftIn : ByteArray := prog_1_method_53_code
def yX0_wearsLeftIn : MethodName := ⟨RX0, "wearsLeftIn", "(I)I"⟩
abbrev cX0_nextPart : ByteArray := prog_1_method_54_code
def yX0_nextPart : MethodName := ⟨RX0, "nextPart", "(II)I"⟩
abbrev cX0_lasts : ByteArray := prog_1_method_55_code
def yX0_lasts : MethodName := ⟨RX0, "lasts", "(III)Z"⟩
def RX1 : String := "WardrobeKeeperModel"
def TX1 : u_T := fun k => match k with
  | 0 => ("WardrobeKeeperModel", "today", "I", false)
  | 1 => ("WardrobeKeeperModel", "added", "I", false)
  | 2 => ("WardrobeKeeperModel", "isGone", "[Z", true)
  | 3 => ("WardrobeKeeperModel", "kinds", "[I", true)
  | 4 => ("WardrobeKeeperModel", "colours", "[I", true)
  | 5 => ("WardrobeKeeperModel", "warmths", "[I", true)
  | 6 => ("WardrobeKeeperModel", "wears", "[I", true)
  | 7 => ("WardrobeKeeperModel", "cares", "[I", true)
  | 8 => ("WardrobeKeeperModel", "lefts", "[I", true)
  | 9 => ("WardrobeKeeperModel", "clash", "[Z", true)
  | 10 => ("WardrobeKeeperModel", "seen", "[I", true)
  | 11 => ("WardrobeKeeperModel", "goesWith", "[I", true)
  | _ => ("WardrobeKeeperModel", "thrown", "I", false)
def tyX1 : Nat → FieldType := fun k => match k with
  | 0 => .int
  | 1 => .int
  | 2 => .array .boolean
  | 3 => .array .int
  | 4 => .array .int
  | 5 => .array .int
  | 6 => .array .int
  | 7 => .array .int
  | 8 => .array .int
  | 9 => .array .boolean
  | 10 => .array .int
  | 11 => .array .int
  | _ => .int
abbrev wsX10 : List Cond := u_ws RX1 TX1 13
theorem nmX1 : ∀ a, a < 13 → ∀ b, b < 13 → a ≠ b → (TX1 a).2.1 ≠ (TX1 b).2.1 := by decide +kernel
theorem tyX1_ok : ∀ k, k < 13 → parseFieldDescriptor (TX1 k).2.2.1 = some (tyX1 k) := by decide +kernel
abbrev cX1_init : ByteArray := prog_3_method_1_code
def yX1_init : MethodName := ⟨RX1, "<init>", "()V"⟩
abbrev cX1_thrown : ByteArray := prog_3_method_2_code
def yX1_thrown : MethodName := ⟨RX1, "thrown", "()I"⟩
abbrev cX1_goes : ByteArray := prog_3_method_3_code
def yX1_goes : MethodName := ⟨RX1, "goes", "(I)Z"⟩
abbrev cX1_isIn : ByteArray := prog_3_method_4_code
def yX1_isIn : MethodName := ⟨RX1, "isIn", "(III)Z"⟩
abbrev cX1_isThing : ByteArray := prog_3_method_5_code
def yX1_isThing : MethodName := ⟨RX1, "isThing", "(I)Z"⟩
abbrev cX1_isColour : ByteArray := prog_3_method_6_code
def yX1_isColour : MethodName := ⟨RX1, "isColour", "(I)Z"⟩
abbrev cX1_arePeople : ByteArray := prog_3_method_7_code
def yX1_arePeople : MethodName := ⟨RX1, "arePeople", "(I)Z"⟩
abbrev cX1_isCare : ByteArray := prog_3_method_8_code
def yX1_isCare : MethodName := ⟨RX1, "isCare", "(I)Z"⟩
abbrev cX1_add : ByteArray := prog_3_method_9_code
def yX1_add : MethodName := ⟨RX1, "add", "(IIIII)I"⟩
abbrev cX1_here : ByteArray := prog_3_method_10_code
def yX1_here : MethodName := ⟨RX1, "here", "()I"⟩
abbrev cX1_giveAway : ByteArray := prog_3_method_11_code
def yX1_giveAway : MethodName := ⟨RX1, "giveAway", "(I)I"⟩
abbrev cX1_setClash : ByteArray := prog_3_method_12_code
def yX1_setClash : MethodName := ⟨RX1, "setClash", "(IIZ)Z"⟩
abbrev cX1_things : ByteArray := prog_3_method_13_code
def yX1_things : MethodName := ⟨RX1, "things", "()I"⟩
abbrev cX1_left : ByteArray := prog_3_method_14_code
def yX1_left : MethodName := ⟨RX1, "left", "(I)I"⟩
abbrev cX1_doClash : ByteArray := prog_3_method_15_code
def yX1_doClash : MethodName := ⟨RX1, "doClash", "(II)Z"⟩
abbrev cX1_wrong : ByteArray := prog_3_method_16_code
def yX1_wrong : MethodName := ⟨RX1, "wrong", "(III)I"⟩
abbrev cX1_fits : ByteArray := prog_3_method_17_code
def yX1_fits : MethodName := ⟨RX1, "fits", "(III)Z"⟩
abbrev cX1_warmthOf : ByteArray := prog_3_method_18_code
def yX1_warmthOf : MethodName := ⟨RX1, "warmthOf", "(III)I"⟩
abbrev cX1_isSoon : ByteArray := prog_3_method_19_code
def yX1_isSoon : MethodName := ⟨RX1, "isSoon", "(III)Z"⟩
abbrev cX1_isPossible : ByteArray := prog_3_method_20_code
def yX1_isPossible : MethodName := ⟨RX1, "isPossible", "(III)Z"⟩
abbrev cX1_isTooSoon : ByteArray := prog_3_method_21_code
def yX1_isTooSoon : MethodName := ⟨RX1, "isTooSoon", "(III)Z"⟩
abbrev cX1_wear : ByteArray := prog_3_method_22_code
def yX1_wear : MethodName := ⟨RX1, "wear", "(IIII)I"⟩
abbrev cX1_count : ByteArray := prog_3_method_23_code
def yX1_count : MethodName := ⟨RX1, "count", "(II)I"⟩
abbrev cX1_outfits : ByteArray := prog_3_method_24_code
def yX1_outfits : MethodName := ⟨RX1, "outfits", "(I)I"⟩
abbrev cX1_adds : ByteArray := prog_3_method_25_code
def yX1_adds : MethodName := ⟨RX1, "adds", "(II)I"⟩
abbrev cX1_missingTop : ByteArray := prog_3_method_26_code
def yX1_missingTop : MethodName := ⟨RX1, "missingTop", "()I"⟩
abbrev cX1_outfitFor : ByteArray := prog_3_method_27_code
def yX1_outfitFor : MethodName := ⟨RX1, "outfitFor", "(II)I"⟩
abbrev cX1_isOf : ByteArray := prog_3_method_28_code
def yX1_isOf : MethodName := ⟨RX1, "isOf", "(IIZ)Z"⟩
abbrev cX1_load : ByteArray := prog_3_method_29_code
def yX1_load : MethodName := ⟨RX1, "load", "(IZ)I"⟩
abbrev cX1_wash : ByteArray := prog_3_method_30_code
def yX1_wash : MethodName := ⟨RX1, "wash", "(IZ)I"⟩
abbrev cX1_pass : ByteArray := prog_3_method_31_code
def yX1_pass : MethodName := ⟨RX1, "pass", "(I)I"⟩
abbrev cX1_laysPairs : ByteArray := prog_3_method_32_code
def yX1_laysPairs : MethodName := ⟨RX1, "laysPairs", "(I)V"⟩
abbrev cX1_setOf : ByteArray := prog_3_method_33_code
def yX1_setOf : MethodName := ⟨RX1, "setOf", "(I)I"⟩
abbrev cX1_worn : ByteArray := prog_3_method_34_code
def yX1_worn : MethodName := ⟨RX1, "worn", "(I)I"⟩
abbrev cX1_daysOf : ByteArray := prog_3_method_35_code
def yX1_daysOf : MethodName := ⟨RX1, "daysOf", "(III)I"⟩
abbrev cX1_isEnough : ByteArray := prog_3_method_36_code
def yX1_isEnough : MethodName := ⟨RX1, "isEnough", "(III)Z"⟩
abbrev cX1_size : ByteArray := prog_3_method_37_code
def yX1_size : MethodName := ⟨RX1, "size", "(I)I"⟩
abbrev cX1_bag : ByteArray := prog_3_method_38_code
def yX1_bag : MethodName := ⟨RX1, "bag", "(II)I"⟩
def RJ6 : String := "java/lang/Integer"
def TJ6 : u_T := fun k => match k with
  | _ => ("", "", "", false)
def tyJ6 : Nat → FieldType := fun k => match k with
  | _ => .int
abbrev wsJ60 : List Cond := u_ws RJ6 TJ6 0
theorem nmJ6 : ∀ a, a < 0 → ∀ b, b < 0 → a ≠ b → (TJ6 a).2.1 ≠ (TJ6 b).2.1 := by decide +kernel
theorem tyJ6_ok : ∀ k, k < 0 → parseFieldDescriptor (TJ6 k).2.2.1 = some (tyJ6 k) := by decide +kernel
abbrev cJ6_bitCount_0f7a4 : ByteArray := prog_8_method_49_code
def yJ6_bitCount_0f7a4 : MethodName := ⟨RJ6, "bitCount", "(I)I"⟩
def RJ0 : String := "java/lang/String"
def TJ0 : u_T := fun k => match k with
  | _ => ("", "", "", false)
def tyJ0 : Nat → FieldType := fun k => match k with
  | _ => .int
abbrev wsJ00 : List Cond := u_ws RJ0 TJ0 0
theorem nmJ0 : ∀ a, a < 0 → ∀ b, b < 0 → a ≠ b → (TJ0 a).2.1 ≠ (TJ0 b).2.1 := by decide +kernel
theorem tyJ0_ok : ∀ k, k < 0 → parseFieldDescriptor (TJ0 k).2.2.1 = some (tyJ0 k) := by decide +kernel
def RL : String := "WardrobeKeeperLaw"
abbrev cL_add : ByteArray := method_3_code
def yL_add : MethodName := ⟨RL, "add", "(LWardrobeKeeper;IIIII[J)I"⟩
abbrev cL_giveAway : ByteArray := method_4_code
def yL_giveAway : MethodName := ⟨RL, "giveAway", "(LWardrobeKeeper;I[J)I"⟩
abbrev cL_setClash : ByteArray := method_5_code
def yL_setClash : MethodName := ⟨RL, "setClash", "(LWardrobeKeeper;IIZ[J)I"⟩
abbrev cL_left : ByteArray := method_6_code
def yL_left : MethodName := ⟨RL, "left", "(LWardrobeKeeper;I[J)I"⟩
abbrev cL_isPossible : ByteArray := method_7_code
def yL_isPossible : MethodName := ⟨RL, "isPossible", "(LWardrobeKeeper;III[J)I"⟩
abbrev cL_isTooSoon : ByteArray := method_8_code
def yL_isTooSoon : MethodName := ⟨RL, "isTooSoon", "(LWardrobeKeeper;III[J)I"⟩
abbrev cL_wear : ByteArray := method_9_code
def yL_wear : MethodName := ⟨RL, "wear", "(LWardrobeKeeper;IIII[J)I"⟩
abbrev cL_outfits : ByteArray := method_10_code
def yL_outfits : MethodName := ⟨RL, "outfits", "(LWardrobeKeeper;I[J)I"⟩
abbrev cL_adds : ByteArray := method_11_code
def yL_adds : MethodName := ⟨RL, "adds", "(LWardrobeKeeper;II[J)I"⟩
abbrev cL_outfitFor : ByteArray := method_12_code
def yL_outfitFor : MethodName := ⟨RL, "outfitFor", "(LWardrobeKeeper;II[J)I"⟩
abbrev cL_load : ByteArray := method_13_code
def yL_load : MethodName := ⟨RL, "load", "(LWardrobeKeeper;IZ[J)I"⟩
abbrev cL_wash : ByteArray := method_14_code
def yL_wash : MethodName := ⟨RL, "wash", "(LWardrobeKeeper;IZ[J)I"⟩
abbrev cL_pass : ByteArray := method_15_code
def yL_pass : MethodName := ⟨RL, "pass", "(LWardrobeKeeper;I[J)I"⟩
abbrev cL_isEnough : ByteArray := method_16_code
def yL_isEnough : MethodName := ⟨RL, "isEnough", "(LWardrobeKeeper;III[J)I"⟩
abbrev cL_bag : ByteArray := method_17_code
def yL_bag : MethodName := ⟨RL, "bag", "(LWardrobeKeeper;II[J)I"⟩
abbrev cL_law : ByteArray := code
def yL_law : MethodName := ⟨RL, "law", "([I)Z"⟩
def wsX0_init : List Cond := .code yX0_init cX0_init 1 none :: ([.methodLink RX0 1 objectInit, .instanceMethod objectInit, .code objectInit ⟨#[0xb1]⟩ 1 none, .arrayClass .int, .fieldLink RX0 9 "WardrobeKeeper" "kinds" "[I", .fieldLink RX0 13 "WardrobeKeeper" "colours" "[I", .fieldLink RX0 16 "WardrobeKeeper" "warmths" "[I", .fieldLink RX0 19 "WardrobeKeeper" "wearsWhenClean" "[I", .fieldLink RX0 22 "WardrobeKeeper" "cares" "[I", .fieldLink RX0 25 "WardrobeKeeper" "wearsLeft" "[I", .fieldLink RX0 28 "WardrobeKeeper" "freeFrom" "[I", .fieldLink RX0 31 "WardrobeKeeper" "partners" "[I"] ++ wsX00)
def wsX0_isWithin : List Cond := .code yX0_isWithin cX0_isWithin 3 (some .boolean) :: ([])
def wsX0_isColour : List Cond := .code yX0_isColour cX0_isColour 1 (some .boolean) :: ([.methodLink RX0 34 yX0_isWithin, .static yX0_isWithin, .initialized RX0, .code yX0_isWithin cX0_isWithin 3 (some .boolean)])
def wsX0_isCare : List Cond := .code yX0_isCare cX0_isCare 1 (some .boolean) :: ([.methodLink RX0 34 yX0_isWithin, .static yX0_isWithin, .initialized RX0, .code yX0_isWithin cX0_isWithin 3 (some .boolean)])
def wsX0_add : List Cond := .code yX0_add cX0_add 7 (some .int) :: ([.classLink RX0 45 "java/lang/IllegalArgumentException", .initialized "java/lang/IllegalArgumentException", .classLink RX0 56 "java/lang/IllegalStateException", .initialized "java/lang/IllegalStateException", .fieldLink RX0 52 "WardrobeKeeper" "added" "I", .fieldLink RX0 9 "WardrobeKeeper" "kinds" "[I", .fieldLink RX0 13 "WardrobeKeeper" "colours" "[I", .fieldLink RX0 16 "WardrobeKeeper" "warmths" "[I", .fieldLink RX0 19 "WardrobeKeeper" "wearsWhenClean" "[I", .fieldLink RX0 22 "WardrobeKeeper" "cares" "[I", .fieldLink RX0 25 "WardrobeKeeper" "wearsLeft" "[I", .fieldLink RX0 61 "WardrobeKeeper" "owned" "I", .methodLink RX0 34 yX0_isWithin, .static yX0_isWithin, .initialized RX0, .code yX0_isWithin cX0_isWithin 3 (some .boolean), .methodLink RX0 38 yX0_isColour, .static yX0_isColour, .code yX0_isColour cX0_isColour 1 (some .boolean), .methodLink RX0 42 yX0_isCare, .static yX0_isCare, .code yX0_isCare cX0_isCare 1 (some .boolean)] ++ wsX00 ++ (vx_atS RX0 49 "java/lang/IllegalArgumentException" ["java/lang/RuntimeException", "java/lang/Exception"]).filter goodWord ++ (vx_atS RX0 60 "java/lang/IllegalStateException" ["java/lang/RuntimeException", "java/lang/Exception"]).filter goodWord)
def wsX0_isThing : List Cond := .code yX0_isThing cX0_isThing 2 (some .boolean) :: ([.fieldLink RX0 61 "WardrobeKeeper" "owned" "I"] ++ wsX00)
def wsJ6_bitCount_0f7a4 : List Cond := .code yJ6_bitCount_0f7a4 cJ6_bitCount_0f7a4 1 (some .int) :: ([.constant RJ6 265 (1431655765), .constant RJ6 266 (858993459), .constant RJ6 267 (252645135)])
def wsX0_giveAway : List Cond := .code yX0_giveAway cX0_giveAway 2 (some .int) :: ([.classLink RX0 67 "java/lang/IndexOutOfBoundsException", .initialized "java/lang/IndexOutOfBoundsException", .fieldLink RX0 61 "WardrobeKeeper" "owned" "I", .methodLink RX0 64 yX0_isThing, .instanceMethod yX0_isThing, .selects RX0 yX0_isThing yX0_isThing, .initialized RX0, .code yX0_isThing cX0_isThing 2 (some .boolean), .methodLink RX0 72 yJ6_bitCount_0f7a4, .static yJ6_bitCount_0f7a4, .initialized RJ6, .code yJ6_bitCount_0f7a4 cJ6_bitCount_0f7a4 1 (some .int), .constant RJ6 265 (1431655765), .constant RJ6 266 (858993459), .constant RJ6 267 (252645135)] ++ wsX00 ++ (vx_atS RX0 71 "java/lang/IndexOutOfBoundsException" ["java/lang/RuntimeException", "java/lang/Exception"]).filter goodWord)
def wsX0_clashBit : List Cond := .code yX0_clashBit cX0_clashBit 2 (some .long) :: ([])
def wsX0_coloursClash : List Cond := .code yX0_coloursClash cX0_coloursClash 3 (some .boolean) :: ([.fieldLink RX0 88 "WardrobeKeeper" "clashes" "J", .methodLink RX0 84 yX0_clashBit, .static yX0_clashBit, .initialized RX0, .code yX0_clashBit cX0_clashBit 2 (some .long)] ++ wsX00)
def wsX0_setClash : List Cond := .code yX0_setClash cX0_setClash 7 (some .boolean) :: ([.classLink RX0 45 "java/lang/IllegalArgumentException", .initialized "java/lang/IllegalArgumentException", .fieldLink RX0 88 "WardrobeKeeper" "clashes" "J", .constantLong RX0 92 (-1), .methodLink RX0 38 yX0_isColour, .static yX0_isColour, .initialized RX0, .code yX0_isColour cX0_isColour 1 (some .boolean), .methodLink RX0 34 yX0_isWithin, .static yX0_isWithin, .code yX0_isWithin cX0_isWithin 3 (some .boolean), .methodLink RX0 80 yX0_coloursClash, .instanceMethod yX0_coloursClash, .selects RX0 yX0_coloursClash yX0_coloursClash, .code yX0_coloursClash cX0_coloursClash 3 (some .boolean), .methodLink RX0 84 yX0_clashBit, .static yX0_clashBit, .code yX0_clashBit cX0_clashBit 2 (some .long)] ++ wsX00 ++ (vx_atS RX0 49 "java/lang/IllegalArgumentException" ["java/lang/RuntimeException", "java/lang/Exception"]).filter goodWord)
def wsX0_things : List Cond := .code yX0_things cX0_things 1 (some .int) :: ([.fieldLink RX0 61 "WardrobeKeeper" "owned" "I", .methodLink RX0 72 yJ6_bitCount_0f7a4, .static yJ6_bitCount_0f7a4, .initialized RJ6, .code yJ6_bitCount_0f7a4 cJ6_bitCount_0f7a4 1 (some .int), .constant RJ6 265 (1431655765), .constant RJ6 266 (858993459), .constant RJ6 267 (252645135)] ++ wsX00)
def wsX0_left : List Cond := .code yX0_left cX0_left 2 (some .int) :: ([.classLink RX0 67 "java/lang/IndexOutOfBoundsException", .initialized "java/lang/IndexOutOfBoundsException", .fieldLink RX0 25 "WardrobeKeeper" "wearsLeft" "[I", .methodLink RX0 64 yX0_isThing, .instanceMethod yX0_isThing, .selects RX0 yX0_isThing yX0_isThing, .initialized RX0, .code yX0_isThing cX0_isThing 2 (some .boolean), .fieldLink RX0 61 "WardrobeKeeper" "owned" "I"] ++ wsX00 ++ (vx_atS RX0 71 "java/lang/IndexOutOfBoundsException" ["java/lang/RuntimeException", "java/lang/Exception"]).filter goodWord)
def wsX0_areThings : List Cond := .code yX0_areThings cX0_areThings 4 (some .boolean) :: ([.methodLink RX0 64 yX0_isThing, .instanceMethod yX0_isThing, .selects RX0 yX0_isThing yX0_isThing, .initialized RX0, .code yX0_isThing cX0_isThing 2 (some .boolean), .fieldLink RX0 61 "WardrobeKeeper" "owned" "I"] ++ wsX00)
def wsX0_isOfKind : List Cond := .code yX0_isOfKind cX0_isOfKind 3 (some .boolean) :: ([.fieldLink RX0 9 "WardrobeKeeper" "kinds" "[I", .methodLink RX0 64 yX0_isThing, .instanceMethod yX0_isThing, .selects RX0 yX0_isThing yX0_isThing, .initialized RX0, .code yX0_isThing cX0_isThing 2 (some .boolean), .fieldLink RX0 61 "WardrobeKeeper" "owned" "I"] ++ wsX00)
def wsX0_areOfTheirKinds : List Cond := .code yX0_areOfTheirKinds cX0_areOfTheirKinds 4 (some .boolean) :: ([.methodLink RX0 191 yX0_isOfKind, .instanceMethod yX0_isOfKind, .selects RX0 yX0_isOfKind yX0_isOfKind, .initialized RX0, .code yX0_isOfKind cX0_isOfKind 3 (some .boolean), .fieldLink RX0 9 "WardrobeKeeper" "kinds" "[I", .methodLink RX0 64 yX0_isThing, .instanceMethod yX0_isThing, .selects RX0 yX0_isThing yX0_isThing, .code yX0_isThing cX0_isThing 2 (some .boolean), .fieldLink RX0 61 "WardrobeKeeper" "owned" "I"] ++ wsX00)
def wsX0_isCleanOfKind : List Cond := .code yX0_isCleanOfKind cX0_isCleanOfKind 3 (some .boolean) :: ([.fieldLink RX0 9 "WardrobeKeeper" "kinds" "[I", .fieldLink RX0 25 "WardrobeKeeper" "wearsLeft" "[I", .methodLink RX0 64 yX0_isThing, .instanceMethod yX0_isThing, .selects RX0 yX0_isThing yX0_isThing, .initialized RX0, .code yX0_isThing cX0_isThing 2 (some .boolean), .fieldLink RX0 61 "WardrobeKeeper" "owned" "I"] ++ wsX00)
def wsX0_doClash : List Cond := .code yX0_doClash cX0_doClash 3 (some .boolean) :: ([.fieldLink RX0 13 "WardrobeKeeper" "colours" "[I", .methodLink RX0 64 yX0_isThing, .instanceMethod yX0_isThing, .selects RX0 yX0_isThing yX0_isThing, .initialized RX0, .code yX0_isThing cX0_isThing 2 (some .boolean), .fieldLink RX0 61 "WardrobeKeeper" "owned" "I", .methodLink RX0 80 yX0_coloursClash, .instanceMethod yX0_coloursClash, .selects RX0 yX0_coloursClash yX0_coloursClash, .code yX0_coloursClash cX0_coloursClash 3 (some .boolean), .fieldLink RX0 88 "WardrobeKeeper" "clashes" "J", .methodLink RX0 84 yX0_clashBit, .static yX0_clashBit, .code yX0_clashBit cX0_clashBit 2 (some .long)] ++ wsX00)
def wsX0_fitsOver_r1 : List Cond := [Cond.methodLink RX0 194 yX0_isCleanOfKind, Cond.instanceMethod yX0_isCleanOfKind, Cond.selects RX0 yX0_isCleanOfKind yX0_isCleanOfKind, Cond.initialized RX0, Cond.code yX0_isCleanOfKind cX0_isCleanOfKind 3 (some .boolean), Cond.fieldLink RX0 9 "WardrobeKeeper" "kinds" "[I", Cond.fieldLink RX0 25 "WardrobeKeeper" "wearsLeft" "[I", Cond.methodLink RX0 64 yX0_isThing, Cond.instanceMethod yX0_isThing, Cond.selects RX0 yX0_isThing yX0_isThing, Cond.code yX0_isThing cX0_isThing 2 (some .boolean), Cond.fieldLink RX0 61 "WardrobeKeeper" "owned" "I", Cond.methodLink RX0 197 yX0_doClash, Cond.instanceMethod yX0_doClash, Cond.selects RX0 yX0_doClash yX0_doClash, Cond.code yX0_doClash cX0_doClash 3 (some .boolean), Cond.fieldLink RX0 13 "WardrobeKeeper" "colours" "[I", Cond.methodLink RX0 80 yX0_coloursClash, Cond.instanceMethod yX0_coloursClash, Cond.selects RX0 yX0_coloursClash yX0_coloursClash, Cond.code yX0_coloursClash cX0_coloursClash 3 (some .boolean), Cond.fieldLink RX0 88 "WardrobeKeeper" "clashes" "J", Cond.methodLink RX0 84 yX0_clashBit, Cond.static yX0_clashBit]
def wsX0_fitsOver_r2 : List Cond := [Cond.code yX0_clashBit cX0_clashBit 2 (some .long)]
def wsX0_fitsOver : List Cond := .code yX0_fitsOver cX0_fitsOver 4 (some .boolean) :: ((wsX0_fitsOver_r1 ++ wsX0_fitsOver_r2) ++ wsX00)
def wsX0_canBeWorn_r1 : List Cond := [Cond.methodLink RX0 194 yX0_isCleanOfKind, Cond.instanceMethod yX0_isCleanOfKind, Cond.selects RX0 yX0_isCleanOfKind yX0_isCleanOfKind, Cond.initialized RX0, Cond.code yX0_isCleanOfKind cX0_isCleanOfKind 3 (some .boolean), Cond.fieldLink RX0 9 "WardrobeKeeper" "kinds" "[I", Cond.fieldLink RX0 25 "WardrobeKeeper" "wearsLeft" "[I", Cond.methodLink RX0 64 yX0_isThing, Cond.instanceMethod yX0_isThing, Cond.selects RX0 yX0_isThing yX0_isThing, Cond.code yX0_isThing cX0_isThing 2 (some .boolean), Cond.fieldLink RX0 61 "WardrobeKeeper" "owned" "I", Cond.methodLink RX0 197 yX0_doClash, Cond.instanceMethod yX0_doClash, Cond.selects RX0 yX0_doClash yX0_doClash, Cond.code yX0_doClash cX0_doClash 3 (some .boolean), Cond.fieldLink RX0 13 "WardrobeKeeper" "colours" "[I", Cond.methodLink RX0 80 yX0_coloursClash, Cond.instanceMethod yX0_coloursClash, Cond.selects RX0 yX0_coloursClash yX0_coloursClash, Cond.code yX0_coloursClash cX0_coloursClash 3 (some .boolean), Cond.fieldLink RX0 88 "WardrobeKeeper" "clashes" "J", Cond.methodLink RX0 84 yX0_clashBit, Cond.static yX0_clashBit]
def wsX0_canBeWorn_r2 : List Cond := [Cond.code yX0_clashBit cX0_clashBit 2 (some .long), Cond.methodLink RX0 200 yX0_fitsOver, Cond.instanceMethod yX0_fitsOver, Cond.selects RX0 yX0_fitsOver yX0_fitsOver, Cond.code yX0_fitsOver cX0_fitsOver 4 (some .boolean)]
def wsX0_canBeWorn : List Cond := .code yX0_canBeWorn cX0_canBeWorn 4 (some .boolean) :: ((wsX0_canBeWorn_r1 ++ wsX0_canBeWorn_r2) ++ wsX00)
def wsX0_isPossible_r1 : List Cond := [Cond.classLink RX0 67 "java/lang/IndexOutOfBoundsException", Cond.initialized "java/lang/IndexOutOfBoundsException", Cond.classLink RX0 45 "java/lang/IllegalArgumentException", Cond.initialized "java/lang/IllegalArgumentException", Cond.methodLink RX0 94 yX0_areThings, Cond.instanceMethod yX0_areThings, Cond.selects RX0 yX0_areThings yX0_areThings, Cond.initialized RX0, Cond.code yX0_areThings cX0_areThings 4 (some .boolean), Cond.methodLink RX0 64 yX0_isThing, Cond.instanceMethod yX0_isThing, Cond.selects RX0 yX0_isThing yX0_isThing, Cond.code yX0_isThing cX0_isThing 2 (some .boolean), Cond.fieldLink RX0 61 "WardrobeKeeper" "owned" "I", Cond.methodLink RX0 97 yX0_areOfTheirKinds, Cond.instanceMethod yX0_areOfTheirKinds, Cond.selects RX0 yX0_areOfTheirKinds yX0_areOfTheirKinds, Cond.code yX0_areOfTheirKinds cX0_areOfTheirKinds 4 (some .boolean), Cond.methodLink RX0 191 yX0_isOfKind, Cond.instanceMethod yX0_isOfKind, Cond.selects RX0 yX0_isOfKind yX0_isOfKind, Cond.code yX0_isOfKind cX0_isOfKind 3 (some .boolean), Cond.fieldLink RX0 9 "WardrobeKeeper" "kinds" "[I", Cond.methodLink RX0 102 yX0_canBeWorn]
def wsX0_isPossible_r2 : List Cond := [Cond.instanceMethod yX0_canBeWorn, Cond.selects RX0 yX0_canBeWorn yX0_canBeWorn, Cond.code yX0_canBeWorn cX0_canBeWorn 4 (some .boolean), Cond.methodLink RX0 194 yX0_isCleanOfKind, Cond.instanceMethod yX0_isCleanOfKind, Cond.selects RX0 yX0_isCleanOfKind yX0_isCleanOfKind, Cond.code yX0_isCleanOfKind cX0_isCleanOfKind 3 (some .boolean), Cond.fieldLink RX0 25 "WardrobeKeeper" "wearsLeft" "[I", Cond.methodLink RX0 197 yX0_doClash, Cond.instanceMethod yX0_doClash, Cond.selects RX0 yX0_doClash yX0_doClash, Cond.code yX0_doClash cX0_doClash 3 (some .boolean), Cond.fieldLink RX0 13 "WardrobeKeeper" "colours" "[I", Cond.methodLink RX0 80 yX0_coloursClash, Cond.instanceMethod yX0_coloursClash, Cond.selects RX0 yX0_coloursClash yX0_coloursClash, Cond.code yX0_coloursClash cX0_coloursClash 3 (some .boolean), Cond.fieldLink RX0 88 "WardrobeKeeper" "clashes" "J", Cond.methodLink RX0 84 yX0_clashBit, Cond.static yX0_clashBit, Cond.code yX0_clashBit cX0_clashBit 2 (some .long), Cond.methodLink RX0 200 yX0_fitsOver, Cond.instanceMethod yX0_fitsOver, Cond.selects RX0 yX0_fitsOver yX0_fitsOver]
def wsX0_isPossible_r3 : List Cond := [Cond.code yX0_fitsOver cX0_fitsOver 4 (some .boolean)]
def wsX0_isPossible : List Cond := .code yX0_isPossible cX0_isPossible 4 (some .boolean) :: ((wsX0_isPossible_r1 ++ (wsX0_isPossible_r2 ++ wsX0_isPossible_r3)) ++ wsX00 ++ (vx_atS RX0 71 "java/lang/IndexOutOfBoundsException" ["java/lang/RuntimeException", "java/lang/Exception"]).filter goodWord ++ (vx_atS RX0 49 "java/lang/IllegalArgumentException" ["java/lang/RuntimeException", "java/lang/Exception"]).filter goodWord)
def wsX0_arePeople : List Cond := .code yX0_arePeople cX0_arePeople 1 (some .boolean) :: ([.methodLink RX0 34 yX0_isWithin, .static yX0_isWithin, .initialized RX0, .code yX0_isWithin cX0_isWithin 3 (some .boolean)])
def wsX0_firstSeat : List Cond := .code yX0_firstSeat cX0_firstSeat 2 (some .int) :: ([])
def wsX0_wasSeenLately : List Cond := .code yX0_wasSeenLately cX0_wasSeenLately 6 (some .boolean) :: ([.fieldLink RX0 162 "WardrobeKeeper" "today" "I", .fieldLink RX0 28 "WardrobeKeeper" "freeFrom" "[I", .methodLink RX0 64 yX0_isThing, .instanceMethod yX0_isThing, .selects RX0 yX0_isThing yX0_isThing, .initialized RX0, .code yX0_isThing cX0_isThing 2 (some .boolean), .fieldLink RX0 61 "WardrobeKeeper" "owned" "I", .methodLink RX0 206 yX0_firstSeat, .static yX0_firstSeat, .code yX0_firstSeat cX0_firstSeat 2 (some .int)] ++ wsX00)
def wsX0_isTooSoon_r1 : List Cond := [Cond.classLink RX0 67 "java/lang/IndexOutOfBoundsException", Cond.initialized "java/lang/IndexOutOfBoundsException", Cond.classLink RX0 45 "java/lang/IllegalArgumentException", Cond.initialized "java/lang/IllegalArgumentException", Cond.methodLink RX0 94 yX0_areThings, Cond.instanceMethod yX0_areThings, Cond.selects RX0 yX0_areThings yX0_areThings, Cond.initialized RX0, Cond.code yX0_areThings cX0_areThings 4 (some .boolean), Cond.methodLink RX0 64 yX0_isThing, Cond.instanceMethod yX0_isThing, Cond.selects RX0 yX0_isThing yX0_isThing, Cond.code yX0_isThing cX0_isThing 2 (some .boolean), Cond.fieldLink RX0 61 "WardrobeKeeper" "owned" "I", Cond.methodLink RX0 97 yX0_areOfTheirKinds, Cond.instanceMethod yX0_areOfTheirKinds, Cond.selects RX0 yX0_areOfTheirKinds yX0_areOfTheirKinds, Cond.code yX0_areOfTheirKinds cX0_areOfTheirKinds 4 (some .boolean), Cond.methodLink RX0 191 yX0_isOfKind, Cond.instanceMethod yX0_isOfKind, Cond.selects RX0 yX0_isOfKind yX0_isOfKind, Cond.code yX0_isOfKind cX0_isOfKind 3 (some .boolean), Cond.fieldLink RX0 9 "WardrobeKeeper" "kinds" "[I", Cond.methodLink RX0 105 yX0_arePeople]
def wsX0_isTooSoon_r2 : List Cond := [Cond.static yX0_arePeople, Cond.code yX0_arePeople cX0_arePeople 1 (some .boolean), Cond.methodLink RX0 34 yX0_isWithin, Cond.static yX0_isWithin, Cond.code yX0_isWithin cX0_isWithin 3 (some .boolean), Cond.methodLink RX0 110 yX0_wasSeenLately, Cond.instanceMethod yX0_wasSeenLately, Cond.selects RX0 yX0_wasSeenLately yX0_wasSeenLately, Cond.code yX0_wasSeenLately cX0_wasSeenLately 6 (some .boolean), Cond.fieldLink RX0 162 "WardrobeKeeper" "today" "I", Cond.fieldLink RX0 28 "WardrobeKeeper" "freeFrom" "[I", Cond.methodLink RX0 206 yX0_firstSeat, Cond.static yX0_firstSeat, Cond.code yX0_firstSeat cX0_firstSeat 2 (some .int)]
def wsX0_isTooSoon : List Cond := .code yX0_isTooSoon cX0_isTooSoon 4 (some .boolean) :: ((wsX0_isTooSoon_r1 ++ wsX0_isTooSoon_r2) ++ wsX00 ++ (vx_atS RX0 71 "java/lang/IndexOutOfBoundsException" ["java/lang/RuntimeException", "java/lang/Exception"]).filter goodWord ++ (vx_atS RX0 49 "java/lang/IllegalArgumentException" ["java/lang/RuntimeException", "java/lang/Exception"]).filter goodWord)
def wsX0_wearsLeftOf : List Cond := .code yX0_wearsLeftOf cX0_wearsLeftOf 2 (some .int) :: ([.fieldLink RX0 25 "WardrobeKeeper" "wearsLeft" "[I", .methodLink RX0 64 yX0_isThing, .instanceMethod yX0_isThing, .selects RX0 yX0_isThing yX0_isThing, .initialized RX0, .code yX0_isThing cX0_isThing 2 (some .boolean), .fieldLink RX0 61 "WardrobeKeeper" "owned" "I"] ++ wsX00)
def wsX0_wearOnce : List Cond := .code yX0_wearOnce cX0_wearOnce 2 none :: ([.fieldLink RX0 25 "WardrobeKeeper" "wearsLeft" "[I", .methodLink RX0 150 yX0_wearsLeftOf, .instanceMethod yX0_wearsLeftOf, .selects RX0 yX0_wearsLeftOf yX0_wearsLeftOf, .initialized RX0, .code yX0_wearsLeftOf cX0_wearsLeftOf 2 (some .int), .methodLink RX0 64 yX0_isThing, .instanceMethod yX0_isThing, .selects RX0 yX0_isThing yX0_isThing, .code yX0_isThing cX0_isThing 2 (some .boolean), .fieldLink RX0 61 "WardrobeKeeper" "owned" "I"] ++ wsX00)
def wsX0_showTo : List Cond := .code yX0_showTo cX0_showTo 6 none :: ([.fieldLink RX0 28 "WardrobeKeeper" "freeFrom" "[I", .fieldLink RX0 162 "WardrobeKeeper" "today" "I", .methodLink RX0 64 yX0_isThing, .instanceMethod yX0_isThing, .selects RX0 yX0_isThing yX0_isThing, .initialized RX0, .code yX0_isThing cX0_isThing 2 (some .boolean), .fieldLink RX0 61 "WardrobeKeeper" "owned" "I", .methodLink RX0 206 yX0_firstSeat, .static yX0_firstSeat, .code yX0_firstSeat cX0_firstSeat 2 (some .int)] ++ wsX00)
def wsX0_warmthOf : List Cond := .code yX0_warmthOf cX0_warmthOf 2 (some .int) :: ([.fieldLink RX0 16 "WardrobeKeeper" "warmths" "[I", .methodLink RX0 64 yX0_isThing, .instanceMethod yX0_isThing, .selects RX0 yX0_isThing yX0_isThing, .initialized RX0, .code yX0_isThing cX0_isThing 2 (some .boolean), .fieldLink RX0 61 "WardrobeKeeper" "owned" "I"] ++ wsX00)
def wsX0_outfitWarmth : List Cond := .code yX0_outfitWarmth cX0_outfitWarmth 4 (some .int) :: ([.methodLink RX0 203 yX0_warmthOf, .instanceMethod yX0_warmthOf, .selects RX0 yX0_warmthOf yX0_warmthOf, .initialized RX0, .code yX0_warmthOf cX0_warmthOf 2 (some .int), .fieldLink RX0 16 "WardrobeKeeper" "warmths" "[I", .methodLink RX0 64 yX0_isThing, .instanceMethod yX0_isThing, .selects RX0 yX0_isThing yX0_isThing, .code yX0_isThing cX0_isThing 2 (some .boolean), .fieldLink RX0 61 "WardrobeKeeper" "owned" "I"] ++ wsX00)
def wsX0_wear_r1 : List Cond := [Cond.classLink RX0 67 "java/lang/IndexOutOfBoundsException", Cond.initialized "java/lang/IndexOutOfBoundsException", Cond.classLink RX0 45 "java/lang/IllegalArgumentException", Cond.initialized "java/lang/IllegalArgumentException", Cond.classLink RX0 56 "java/lang/IllegalStateException", Cond.initialized "java/lang/IllegalStateException", Cond.methodLink RX0 94 yX0_areThings, Cond.instanceMethod yX0_areThings, Cond.selects RX0 yX0_areThings yX0_areThings, Cond.initialized RX0, Cond.code yX0_areThings cX0_areThings 4 (some .boolean), Cond.methodLink RX0 64 yX0_isThing, Cond.instanceMethod yX0_isThing, Cond.selects RX0 yX0_isThing yX0_isThing, Cond.code yX0_isThing cX0_isThing 2 (some .boolean), Cond.fieldLink RX0 61 "WardrobeKeeper" "owned" "I", Cond.methodLink RX0 97 yX0_areOfTheirKinds, Cond.instanceMethod yX0_areOfTheirKinds, Cond.selects RX0 yX0_areOfTheirKinds yX0_areOfTheirKinds, Cond.code yX0_areOfTheirKinds cX0_areOfTheirKinds 4 (some .boolean), Cond.methodLink RX0 191 yX0_isOfKind, Cond.instanceMethod yX0_isOfKind, Cond.selects RX0 yX0_isOfKind yX0_isOfKind, Cond.code yX0_isOfKind cX0_isOfKind 3 (some .boolean)]
def wsX0_wear_r2 : List Cond := [Cond.fieldLink RX0 9 "WardrobeKeeper" "kinds" "[I", Cond.methodLink RX0 105 yX0_arePeople, Cond.static yX0_arePeople, Cond.code yX0_arePeople cX0_arePeople 1 (some .boolean), Cond.methodLink RX0 34 yX0_isWithin, Cond.static yX0_isWithin, Cond.code yX0_isWithin cX0_isWithin 3 (some .boolean), Cond.methodLink RX0 102 yX0_canBeWorn, Cond.instanceMethod yX0_canBeWorn, Cond.selects RX0 yX0_canBeWorn yX0_canBeWorn, Cond.code yX0_canBeWorn cX0_canBeWorn 4 (some .boolean), Cond.methodLink RX0 194 yX0_isCleanOfKind, Cond.instanceMethod yX0_isCleanOfKind, Cond.selects RX0 yX0_isCleanOfKind yX0_isCleanOfKind, Cond.code yX0_isCleanOfKind cX0_isCleanOfKind 3 (some .boolean), Cond.fieldLink RX0 25 "WardrobeKeeper" "wearsLeft" "[I", Cond.methodLink RX0 197 yX0_doClash, Cond.instanceMethod yX0_doClash, Cond.selects RX0 yX0_doClash yX0_doClash, Cond.code yX0_doClash cX0_doClash 3 (some .boolean), Cond.fieldLink RX0 13 "WardrobeKeeper" "colours" "[I", Cond.methodLink RX0 80 yX0_coloursClash, Cond.instanceMethod yX0_coloursClash, Cond.selects RX0 yX0_coloursClash yX0_coloursClash]
def wsX0_wear_r3 : List Cond := [Cond.code yX0_coloursClash cX0_coloursClash 3 (some .boolean), Cond.fieldLink RX0 88 "WardrobeKeeper" "clashes" "J", Cond.methodLink RX0 84 yX0_clashBit, Cond.static yX0_clashBit, Cond.code yX0_clashBit cX0_clashBit 2 (some .long), Cond.methodLink RX0 200 yX0_fitsOver, Cond.instanceMethod yX0_fitsOver, Cond.selects RX0 yX0_fitsOver yX0_fitsOver, Cond.code yX0_fitsOver cX0_fitsOver 4 (some .boolean), Cond.methodLink RX0 110 yX0_wasSeenLately, Cond.instanceMethod yX0_wasSeenLately, Cond.selects RX0 yX0_wasSeenLately yX0_wasSeenLately, Cond.code yX0_wasSeenLately cX0_wasSeenLately 6 (some .boolean), Cond.fieldLink RX0 162 "WardrobeKeeper" "today" "I", Cond.fieldLink RX0 28 "WardrobeKeeper" "freeFrom" "[I", Cond.methodLink RX0 206 yX0_firstSeat, Cond.static yX0_firstSeat, Cond.code yX0_firstSeat cX0_firstSeat 2 (some .int), Cond.methodLink RX0 115 yX0_wearOnce, Cond.instanceMethod yX0_wearOnce, Cond.selects RX0 yX0_wearOnce yX0_wearOnce, Cond.code yX0_wearOnce cX0_wearOnce 2 none, Cond.methodLink RX0 150 yX0_wearsLeftOf, Cond.instanceMethod yX0_wearsLeftOf]
def wsX0_wear_r4 : List Cond := [Cond.selects RX0 yX0_wearsLeftOf yX0_wearsLeftOf, Cond.code yX0_wearsLeftOf cX0_wearsLeftOf 2 (some .int), Cond.methodLink RX0 119 yX0_showTo, Cond.instanceMethod yX0_showTo, Cond.selects RX0 yX0_showTo yX0_showTo, Cond.code yX0_showTo cX0_showTo 6 none, Cond.methodLink RX0 123 yX0_outfitWarmth, Cond.instanceMethod yX0_outfitWarmth, Cond.selects RX0 yX0_outfitWarmth yX0_outfitWarmth, Cond.code yX0_outfitWarmth cX0_outfitWarmth 4 (some .int), Cond.methodLink RX0 203 yX0_warmthOf, Cond.instanceMethod yX0_warmthOf, Cond.selects RX0 yX0_warmthOf yX0_warmthOf, Cond.code yX0_warmthOf cX0_warmthOf 2 (some .int), Cond.fieldLink RX0 16 "WardrobeKeeper" "warmths" "[I"]
def wsX0_wear : List Cond := .code yX0_wear cX0_wear 5 (some .int) :: ((wsX0_wear_r1 ++ (wsX0_wear_r2 ++ (wsX0_wear_r3 ++ wsX0_wear_r4))) ++ wsX00 ++ (vx_atS RX0 71 "java/lang/IndexOutOfBoundsException" ["java/lang/RuntimeException", "java/lang/Exception"]).filter goodWord ++ (vx_atS RX0 49 "java/lang/IllegalArgumentException" ["java/lang/RuntimeException", "java/lang/Exception"]).filter goodWord ++ (vx_atS RX0 60 "java/lang/IllegalStateException" ["java/lang/RuntimeException", "java/lang/Exception"]).filter goodWord)
def wsX0_isOutfitWarmth : List Cond := .code yX0_isOutfitWarmth cX0_isOutfitWarmth 1 (some .boolean) :: ([.methodLink RX0 34 yX0_isWithin, .static yX0_isWithin, .initialized RX0, .code yX0_isWithin cX0_isWithin 3 (some .boolean)])
def wsX0_isWarmOutfit_r1 : List Cond := [Cond.methodLink RX0 123 yX0_outfitWarmth, Cond.instanceMethod yX0_outfitWarmth, Cond.selects RX0 yX0_outfitWarmth yX0_outfitWarmth, Cond.initialized RX0, Cond.code yX0_outfitWarmth cX0_outfitWarmth 4 (some .int), Cond.methodLink RX0 203 yX0_warmthOf, Cond.instanceMethod yX0_warmthOf, Cond.selects RX0 yX0_warmthOf yX0_warmthOf, Cond.code yX0_warmthOf cX0_warmthOf 2 (some .int), Cond.fieldLink RX0 16 "WardrobeKeeper" "warmths" "[I", Cond.methodLink RX0 64 yX0_isThing, Cond.instanceMethod yX0_isThing, Cond.selects RX0 yX0_isThing yX0_isThing, Cond.code yX0_isThing cX0_isThing 2 (some .boolean), Cond.fieldLink RX0 61 "WardrobeKeeper" "owned" "I", Cond.methodLink RX0 102 yX0_canBeWorn, Cond.instanceMethod yX0_canBeWorn, Cond.selects RX0 yX0_canBeWorn yX0_canBeWorn, Cond.code yX0_canBeWorn cX0_canBeWorn 4 (some .boolean), Cond.methodLink RX0 194 yX0_isCleanOfKind, Cond.instanceMethod yX0_isCleanOfKind, Cond.selects RX0 yX0_isCleanOfKind yX0_isCleanOfKind, Cond.code yX0_isCleanOfKind cX0_isCleanOfKind 3 (some .boolean), Cond.fieldLink RX0 9 "WardrobeKeeper" "kinds" "[I"]
def wsX0_isWarmOutfit_r2 : List Cond := [Cond.fieldLink RX0 25 "WardrobeKeeper" "wearsLeft" "[I", Cond.methodLink RX0 197 yX0_doClash, Cond.instanceMethod yX0_doClash, Cond.selects RX0 yX0_doClash yX0_doClash, Cond.code yX0_doClash cX0_doClash 3 (some .boolean), Cond.fieldLink RX0 13 "WardrobeKeeper" "colours" "[I", Cond.methodLink RX0 80 yX0_coloursClash, Cond.instanceMethod yX0_coloursClash, Cond.selects RX0 yX0_coloursClash yX0_coloursClash, Cond.code yX0_coloursClash cX0_coloursClash 3 (some .boolean), Cond.fieldLink RX0 88 "WardrobeKeeper" "clashes" "J", Cond.methodLink RX0 84 yX0_clashBit, Cond.static yX0_clashBit, Cond.code yX0_clashBit cX0_clashBit 2 (some .long), Cond.methodLink RX0 200 yX0_fitsOver, Cond.instanceMethod yX0_fitsOver, Cond.selects RX0 yX0_fitsOver yX0_fitsOver, Cond.code yX0_fitsOver cX0_fitsOver 4 (some .boolean)]
def wsX0_isWarmOutfit : List Cond := .code yX0_isWarmOutfit cX0_isWarmOutfit 5 (some .boolean) :: ((wsX0_isWarmOutfit_r1 ++ wsX0_isWarmOutfit_r2) ++ wsX00)
def wsX0_countOutfitsOf_r1 : List Cond := [Cond.fieldLink RX0 52 "WardrobeKeeper" "added" "I", Cond.methodLink RX0 102 yX0_canBeWorn, Cond.instanceMethod yX0_canBeWorn, Cond.selects RX0 yX0_canBeWorn yX0_canBeWorn, Cond.initialized RX0, Cond.code yX0_canBeWorn cX0_canBeWorn 4 (some .boolean), Cond.methodLink RX0 194 yX0_isCleanOfKind, Cond.instanceMethod yX0_isCleanOfKind, Cond.selects RX0 yX0_isCleanOfKind yX0_isCleanOfKind, Cond.code yX0_isCleanOfKind cX0_isCleanOfKind 3 (some .boolean), Cond.fieldLink RX0 9 "WardrobeKeeper" "kinds" "[I", Cond.fieldLink RX0 25 "WardrobeKeeper" "wearsLeft" "[I", Cond.methodLink RX0 64 yX0_isThing, Cond.instanceMethod yX0_isThing, Cond.selects RX0 yX0_isThing yX0_isThing, Cond.code yX0_isThing cX0_isThing 2 (some .boolean), Cond.fieldLink RX0 61 "WardrobeKeeper" "owned" "I", Cond.methodLink RX0 197 yX0_doClash, Cond.instanceMethod yX0_doClash, Cond.selects RX0 yX0_doClash yX0_doClash, Cond.code yX0_doClash cX0_doClash 3 (some .boolean), Cond.fieldLink RX0 13 "WardrobeKeeper" "colours" "[I", Cond.methodLink RX0 80 yX0_coloursClash, Cond.instanceMethod yX0_coloursClash]
def wsX0_countOutfitsOf_r2 : List Cond := [Cond.selects RX0 yX0_coloursClash yX0_coloursClash, Cond.code yX0_coloursClash cX0_coloursClash 3 (some .boolean), Cond.fieldLink RX0 88 "WardrobeKeeper" "clashes" "J", Cond.methodLink RX0 84 yX0_clashBit, Cond.static yX0_clashBit, Cond.code yX0_clashBit cX0_clashBit 2 (some .long), Cond.methodLink RX0 200 yX0_fitsOver, Cond.instanceMethod yX0_fitsOver, Cond.selects RX0 yX0_fitsOver yX0_fitsOver, Cond.code yX0_fitsOver cX0_fitsOver 4 (some .boolean), Cond.methodLink RX0 135 yX0_isWarmOutfit, Cond.instanceMethod yX0_isWarmOutfit, Cond.selects RX0 yX0_isWarmOutfit yX0_isWarmOutfit, Cond.code yX0_isWarmOutfit cX0_isWarmOutfit 5 (some .boolean), Cond.methodLink RX0 123 yX0_outfitWarmth, Cond.instanceMethod yX0_outfitWarmth, Cond.selects RX0 yX0_outfitWarmth yX0_outfitWarmth, Cond.code yX0_outfitWarmth cX0_outfitWarmth 4 (some .int), Cond.methodLink RX0 203 yX0_warmthOf, Cond.instanceMethod yX0_warmthOf, Cond.selects RX0 yX0_warmthOf yX0_warmthOf, Cond.code yX0_warmthOf cX0_warmthOf 2 (some .int), Cond.fieldLink RX0 16 "WardrobeKeeper" "warmths" "[I"]
def wsX0_countOutfitsOf : List Cond := .code yX0_countOutfitsOf cX0_countOutfitsOf 6 (some .int) :: ((wsX0_countOutfitsOf_r1 ++ wsX0_countOutfitsOf_r2) ++ wsX00)
def wsX0_outfits_r1 : List Cond := [Cond.classLink RX0 45 "java/lang/IllegalArgumentException", Cond.initialized "java/lang/IllegalArgumentException", Cond.fieldLink RX0 52 "WardrobeKeeper" "added" "I", Cond.methodLink RX0 127 yX0_isOutfitWarmth, Cond.static yX0_isOutfitWarmth, Cond.initialized RX0, Cond.code yX0_isOutfitWarmth cX0_isOutfitWarmth 1 (some .boolean), Cond.methodLink RX0 34 yX0_isWithin, Cond.static yX0_isWithin, Cond.code yX0_isWithin cX0_isWithin 3 (some .boolean), Cond.methodLink RX0 132 yX0_countOutfitsOf, Cond.instanceMethod yX0_countOutfitsOf, Cond.selects RX0 yX0_countOutfitsOf yX0_countOutfitsOf, Cond.code yX0_countOutfitsOf cX0_countOutfitsOf 6 (some .int), Cond.methodLink RX0 102 yX0_canBeWorn, Cond.instanceMethod yX0_canBeWorn, Cond.selects RX0 yX0_canBeWorn yX0_canBeWorn, Cond.code yX0_canBeWorn cX0_canBeWorn 4 (some .boolean), Cond.methodLink RX0 194 yX0_isCleanOfKind, Cond.instanceMethod yX0_isCleanOfKind, Cond.selects RX0 yX0_isCleanOfKind yX0_isCleanOfKind, Cond.code yX0_isCleanOfKind cX0_isCleanOfKind 3 (some .boolean), Cond.fieldLink RX0 9 "WardrobeKeeper" "kinds" "[I", Cond.fieldLink RX0 25 "WardrobeKeeper" "wearsLeft" "[I"]
def wsX0_outfits_r2 : List Cond := [Cond.methodLink RX0 64 yX0_isThing, Cond.instanceMethod yX0_isThing, Cond.selects RX0 yX0_isThing yX0_isThing, Cond.code yX0_isThing cX0_isThing 2 (some .boolean), Cond.fieldLink RX0 61 "WardrobeKeeper" "owned" "I", Cond.methodLink RX0 197 yX0_doClash, Cond.instanceMethod yX0_doClash, Cond.selects RX0 yX0_doClash yX0_doClash, Cond.code yX0_doClash cX0_doClash 3 (some .boolean), Cond.fieldLink RX0 13 "WardrobeKeeper" "colours" "[I", Cond.methodLink RX0 80 yX0_coloursClash, Cond.instanceMethod yX0_coloursClash, Cond.selects RX0 yX0_coloursClash yX0_coloursClash, Cond.code yX0_coloursClash cX0_coloursClash 3 (some .boolean), Cond.fieldLink RX0 88 "WardrobeKeeper" "clashes" "J", Cond.methodLink RX0 84 yX0_clashBit, Cond.static yX0_clashBit, Cond.code yX0_clashBit cX0_clashBit 2 (some .long), Cond.methodLink RX0 200 yX0_fitsOver, Cond.instanceMethod yX0_fitsOver, Cond.selects RX0 yX0_fitsOver yX0_fitsOver, Cond.code yX0_fitsOver cX0_fitsOver 4 (some .boolean), Cond.methodLink RX0 135 yX0_isWarmOutfit, Cond.instanceMethod yX0_isWarmOutfit]
def wsX0_outfits_r3 : List Cond := [Cond.selects RX0 yX0_isWarmOutfit yX0_isWarmOutfit, Cond.code yX0_isWarmOutfit cX0_isWarmOutfit 5 (some .boolean), Cond.methodLink RX0 123 yX0_outfitWarmth, Cond.instanceMethod yX0_outfitWarmth, Cond.selects RX0 yX0_outfitWarmth yX0_outfitWarmth, Cond.code yX0_outfitWarmth cX0_outfitWarmth 4 (some .int), Cond.methodLink RX0 203 yX0_warmthOf, Cond.instanceMethod yX0_warmthOf, Cond.selects RX0 yX0_warmthOf yX0_warmthOf, Cond.code yX0_warmthOf cX0_warmthOf 2 (some .int), Cond.fieldLink RX0 16 "WardrobeKeeper" "warmths" "[I"]
def wsX0_outfits : List Cond := .code yX0_outfits cX0_outfits 5 (some .int) :: ((wsX0_outfits_r1 ++ (wsX0_outfits_r2 ++ wsX0_outfits_r3)) ++ wsX00 ++ (vx_atS RX0 49 "java/lang/IllegalArgumentException" ["java/lang/RuntimeException", "java/lang/Exception"]).filter goodWord)
def wsX0_adds_r1 : List Cond := [Cond.classLink RX0 67 "java/lang/IndexOutOfBoundsException", Cond.initialized "java/lang/IndexOutOfBoundsException", Cond.classLink RX0 45 "java/lang/IllegalArgumentException", Cond.initialized "java/lang/IllegalArgumentException", Cond.fieldLink RX0 52 "WardrobeKeeper" "added" "I", Cond.methodLink RX0 64 yX0_isThing, Cond.instanceMethod yX0_isThing, Cond.selects RX0 yX0_isThing yX0_isThing, Cond.initialized RX0, Cond.code yX0_isThing cX0_isThing 2 (some .boolean), Cond.fieldLink RX0 61 "WardrobeKeeper" "owned" "I", Cond.methodLink RX0 127 yX0_isOutfitWarmth, Cond.static yX0_isOutfitWarmth, Cond.code yX0_isOutfitWarmth cX0_isOutfitWarmth 1 (some .boolean), Cond.methodLink RX0 34 yX0_isWithin, Cond.static yX0_isWithin, Cond.code yX0_isWithin cX0_isWithin 3 (some .boolean), Cond.methodLink RX0 132 yX0_countOutfitsOf, Cond.instanceMethod yX0_countOutfitsOf, Cond.selects RX0 yX0_countOutfitsOf yX0_countOutfitsOf, Cond.code yX0_countOutfitsOf cX0_countOutfitsOf 6 (some .int), Cond.methodLink RX0 102 yX0_canBeWorn, Cond.instanceMethod yX0_canBeWorn, Cond.selects RX0 yX0_canBeWorn yX0_canBeWorn]
def wsX0_adds_r2 : List Cond := [Cond.code yX0_canBeWorn cX0_canBeWorn 4 (some .boolean), Cond.methodLink RX0 194 yX0_isCleanOfKind, Cond.instanceMethod yX0_isCleanOfKind, Cond.selects RX0 yX0_isCleanOfKind yX0_isCleanOfKind, Cond.code yX0_isCleanOfKind cX0_isCleanOfKind 3 (some .boolean), Cond.fieldLink RX0 9 "WardrobeKeeper" "kinds" "[I", Cond.fieldLink RX0 25 "WardrobeKeeper" "wearsLeft" "[I", Cond.methodLink RX0 197 yX0_doClash, Cond.instanceMethod yX0_doClash, Cond.selects RX0 yX0_doClash yX0_doClash, Cond.code yX0_doClash cX0_doClash 3 (some .boolean), Cond.fieldLink RX0 13 "WardrobeKeeper" "colours" "[I", Cond.methodLink RX0 80 yX0_coloursClash, Cond.instanceMethod yX0_coloursClash, Cond.selects RX0 yX0_coloursClash yX0_coloursClash, Cond.code yX0_coloursClash cX0_coloursClash 3 (some .boolean), Cond.fieldLink RX0 88 "WardrobeKeeper" "clashes" "J", Cond.methodLink RX0 84 yX0_clashBit, Cond.static yX0_clashBit, Cond.code yX0_clashBit cX0_clashBit 2 (some .long), Cond.methodLink RX0 200 yX0_fitsOver, Cond.instanceMethod yX0_fitsOver, Cond.selects RX0 yX0_fitsOver yX0_fitsOver, Cond.code yX0_fitsOver cX0_fitsOver 4 (some .boolean)]
def wsX0_adds_r3 : List Cond := [Cond.methodLink RX0 135 yX0_isWarmOutfit, Cond.instanceMethod yX0_isWarmOutfit, Cond.selects RX0 yX0_isWarmOutfit yX0_isWarmOutfit, Cond.code yX0_isWarmOutfit cX0_isWarmOutfit 5 (some .boolean), Cond.methodLink RX0 123 yX0_outfitWarmth, Cond.instanceMethod yX0_outfitWarmth, Cond.selects RX0 yX0_outfitWarmth yX0_outfitWarmth, Cond.code yX0_outfitWarmth cX0_outfitWarmth 4 (some .int), Cond.methodLink RX0 203 yX0_warmthOf, Cond.instanceMethod yX0_warmthOf, Cond.selects RX0 yX0_warmthOf yX0_warmthOf, Cond.code yX0_warmthOf cX0_warmthOf 2 (some .int), Cond.fieldLink RX0 16 "WardrobeKeeper" "warmths" "[I"]
def wsX0_adds : List Cond := .code yX0_adds cX0_adds 6 (some .int) :: ((wsX0_adds_r1 ++ (wsX0_adds_r2 ++ wsX0_adds_r3)) ++ wsX00 ++ (vx_atS RX0 71 "java/lang/IndexOutOfBoundsException" ["java/lang/RuntimeException", "java/lang/Exception"]).filter goodWord ++ (vx_atS RX0 49 "java/lang/IllegalArgumentException" ["java/lang/RuntimeException", "java/lang/Exception"]).filter goodWord)
def wsX0_countBottomsFor : List Cond := .code yX0_countBottomsFor cX0_countBottomsFor 4 (some .int) :: ([.fieldLink RX0 52 "WardrobeKeeper" "added" "I", .fieldLink RX0 13 "WardrobeKeeper" "colours" "[I", .methodLink RX0 194 yX0_isCleanOfKind, .instanceMethod yX0_isCleanOfKind, .selects RX0 yX0_isCleanOfKind yX0_isCleanOfKind, .initialized RX0, .code yX0_isCleanOfKind cX0_isCleanOfKind 3 (some .boolean), .fieldLink RX0 9 "WardrobeKeeper" "kinds" "[I", .fieldLink RX0 25 "WardrobeKeeper" "wearsLeft" "[I", .methodLink RX0 64 yX0_isThing, .instanceMethod yX0_isThing, .selects RX0 yX0_isThing yX0_isThing, .code yX0_isThing cX0_isThing 2 (some .boolean), .fieldLink RX0 61 "WardrobeKeeper" "owned" "I", .methodLink RX0 80 yX0_coloursClash, .instanceMethod yX0_coloursClash, .selects RX0 yX0_coloursClash yX0_coloursClash, .code yX0_coloursClash cX0_coloursClash 3 (some .boolean), .fieldLink RX0 88 "WardrobeKeeper" "clashes" "J", .methodLink RX0 84 yX0_clashBit, .static yX0_clashBit, .code yX0_clashBit cX0_clashBit 2 (some .long)] ++ wsX00)
def wsX0_missingTop_r1 : List Cond := [Cond.methodLink RX0 139 yX0_countBottomsFor, Cond.instanceMethod yX0_countBottomsFor, Cond.selects RX0 yX0_countBottomsFor yX0_countBottomsFor, Cond.initialized RX0, Cond.code yX0_countBottomsFor cX0_countBottomsFor 4 (some .int), Cond.fieldLink RX0 52 "WardrobeKeeper" "added" "I", Cond.fieldLink RX0 13 "WardrobeKeeper" "colours" "[I", Cond.methodLink RX0 194 yX0_isCleanOfKind, Cond.instanceMethod yX0_isCleanOfKind, Cond.selects RX0 yX0_isCleanOfKind yX0_isCleanOfKind, Cond.code yX0_isCleanOfKind cX0_isCleanOfKind 3 (some .boolean), Cond.fieldLink RX0 9 "WardrobeKeeper" "kinds" "[I", Cond.fieldLink RX0 25 "WardrobeKeeper" "wearsLeft" "[I", Cond.methodLink RX0 64 yX0_isThing, Cond.instanceMethod yX0_isThing, Cond.selects RX0 yX0_isThing yX0_isThing, Cond.code yX0_isThing cX0_isThing 2 (some .boolean), Cond.fieldLink RX0 61 "WardrobeKeeper" "owned" "I", Cond.methodLink RX0 80 yX0_coloursClash, Cond.instanceMethod yX0_coloursClash, Cond.selects RX0 yX0_coloursClash yX0_coloursClash, Cond.code yX0_coloursClash cX0_coloursClash 3 (some .boolean), Cond.fieldLink RX0 88 "WardrobeKeeper" "clashes" "J", Cond.methodLink RX0 84 yX0_clashBit]
def wsX0_missingTop_r2 : List Cond := [Cond.static yX0_clashBit, Cond.code yX0_clashBit cX0_clashBit 2 (some .long)]
def wsX0_missingTop : List Cond := .code yX0_missingTop cX0_missingTop 5 (some .int) :: ((wsX0_missingTop_r1 ++ wsX0_missingTop_r2) ++ wsX00)
def wsX0_outfitFor_r1 : List Cond := [Cond.classLink RX0 45 "java/lang/IllegalArgumentException", Cond.initialized "java/lang/IllegalArgumentException", Cond.fieldLink RX0 52 "WardrobeKeeper" "added" "I", Cond.methodLink RX0 127 yX0_isOutfitWarmth, Cond.static yX0_isOutfitWarmth, Cond.initialized RX0, Cond.code yX0_isOutfitWarmth cX0_isOutfitWarmth 1 (some .boolean), Cond.methodLink RX0 34 yX0_isWithin, Cond.static yX0_isWithin, Cond.code yX0_isWithin cX0_isWithin 3 (some .boolean), Cond.methodLink RX0 105 yX0_arePeople, Cond.static yX0_arePeople, Cond.code yX0_arePeople cX0_arePeople 1 (some .boolean), Cond.methodLink RX0 102 yX0_canBeWorn, Cond.instanceMethod yX0_canBeWorn, Cond.selects RX0 yX0_canBeWorn yX0_canBeWorn, Cond.code yX0_canBeWorn cX0_canBeWorn 4 (some .boolean), Cond.methodLink RX0 194 yX0_isCleanOfKind, Cond.instanceMethod yX0_isCleanOfKind, Cond.selects RX0 yX0_isCleanOfKind yX0_isCleanOfKind, Cond.code yX0_isCleanOfKind cX0_isCleanOfKind 3 (some .boolean), Cond.fieldLink RX0 9 "WardrobeKeeper" "kinds" "[I", Cond.fieldLink RX0 25 "WardrobeKeeper" "wearsLeft" "[I", Cond.methodLink RX0 64 yX0_isThing]
def wsX0_outfitFor_r2 : List Cond := [Cond.instanceMethod yX0_isThing, Cond.selects RX0 yX0_isThing yX0_isThing, Cond.code yX0_isThing cX0_isThing 2 (some .boolean), Cond.fieldLink RX0 61 "WardrobeKeeper" "owned" "I", Cond.methodLink RX0 197 yX0_doClash, Cond.instanceMethod yX0_doClash, Cond.selects RX0 yX0_doClash yX0_doClash, Cond.code yX0_doClash cX0_doClash 3 (some .boolean), Cond.fieldLink RX0 13 "WardrobeKeeper" "colours" "[I", Cond.methodLink RX0 80 yX0_coloursClash, Cond.instanceMethod yX0_coloursClash, Cond.selects RX0 yX0_coloursClash yX0_coloursClash, Cond.code yX0_coloursClash cX0_coloursClash 3 (some .boolean), Cond.fieldLink RX0 88 "WardrobeKeeper" "clashes" "J", Cond.methodLink RX0 84 yX0_clashBit, Cond.static yX0_clashBit, Cond.code yX0_clashBit cX0_clashBit 2 (some .long), Cond.methodLink RX0 200 yX0_fitsOver, Cond.instanceMethod yX0_fitsOver, Cond.selects RX0 yX0_fitsOver yX0_fitsOver, Cond.code yX0_fitsOver cX0_fitsOver 4 (some .boolean), Cond.methodLink RX0 110 yX0_wasSeenLately, Cond.instanceMethod yX0_wasSeenLately, Cond.selects RX0 yX0_wasSeenLately yX0_wasSeenLately]
def wsX0_outfitFor_r3 : List Cond := [Cond.code yX0_wasSeenLately cX0_wasSeenLately 6 (some .boolean), Cond.fieldLink RX0 162 "WardrobeKeeper" "today" "I", Cond.fieldLink RX0 28 "WardrobeKeeper" "freeFrom" "[I", Cond.methodLink RX0 206 yX0_firstSeat, Cond.static yX0_firstSeat, Cond.code yX0_firstSeat cX0_firstSeat 2 (some .int), Cond.methodLink RX0 123 yX0_outfitWarmth, Cond.instanceMethod yX0_outfitWarmth, Cond.selects RX0 yX0_outfitWarmth yX0_outfitWarmth, Cond.code yX0_outfitWarmth cX0_outfitWarmth 4 (some .int), Cond.methodLink RX0 203 yX0_warmthOf, Cond.instanceMethod yX0_warmthOf, Cond.selects RX0 yX0_warmthOf yX0_warmthOf, Cond.code yX0_warmthOf cX0_warmthOf 2 (some .int), Cond.fieldLink RX0 16 "WardrobeKeeper" "warmths" "[I", Cond.methodLink RX0 135 yX0_isWarmOutfit, Cond.instanceMethod yX0_isWarmOutfit, Cond.selects RX0 yX0_isWarmOutfit yX0_isWarmOutfit, Cond.code yX0_isWarmOutfit cX0_isWarmOutfit 5 (some .boolean)]
def wsX0_outfitFor : List Cond := .code yX0_outfitFor cX0_outfitFor 9 (some .int) :: ((wsX0_outfitFor_r1 ++ (wsX0_outfitFor_r2 ++ wsX0_outfitFor_r3)) ++ wsX00 ++ (vx_atS RX0 49 "java/lang/IllegalArgumentException" ["java/lang/RuntimeException", "java/lang/Exception"]).filter goodWord)
def wsX0_isWashedWith : List Cond := .code yX0_isWashedWith cX0_isWashedWith 4 (some .boolean) :: ([.fieldLink RX0 22 "WardrobeKeeper" "cares" "[I", .fieldLink RX0 13 "WardrobeKeeper" "colours" "[I", .methodLink RX0 64 yX0_isThing, .instanceMethod yX0_isThing, .selects RX0 yX0_isThing yX0_isThing, .initialized RX0, .code yX0_isThing cX0_isThing 2 (some .boolean), .fieldLink RX0 61 "WardrobeKeeper" "owned" "I"] ++ wsX00)
def wsX0_load_r1 : List Cond := [Cond.classLink RX0 45 "java/lang/IllegalArgumentException", Cond.initialized "java/lang/IllegalArgumentException", Cond.fieldLink RX0 52 "WardrobeKeeper" "added" "I", Cond.methodLink RX0 42 yX0_isCare, Cond.static yX0_isCare, Cond.initialized RX0, Cond.code yX0_isCare cX0_isCare 1 (some .boolean), Cond.methodLink RX0 34 yX0_isWithin, Cond.static yX0_isWithin, Cond.code yX0_isWithin cX0_isWithin 3 (some .boolean), Cond.methodLink RX0 146 yX0_isWashedWith, Cond.instanceMethod yX0_isWashedWith, Cond.selects RX0 yX0_isWashedWith yX0_isWashedWith, Cond.code yX0_isWashedWith cX0_isWashedWith 4 (some .boolean), Cond.fieldLink RX0 22 "WardrobeKeeper" "cares" "[I", Cond.fieldLink RX0 13 "WardrobeKeeper" "colours" "[I", Cond.methodLink RX0 64 yX0_isThing, Cond.instanceMethod yX0_isThing, Cond.selects RX0 yX0_isThing yX0_isThing, Cond.code yX0_isThing cX0_isThing 2 (some .boolean), Cond.fieldLink RX0 61 "WardrobeKeeper" "owned" "I", Cond.methodLink RX0 150 yX0_wearsLeftOf, Cond.instanceMethod yX0_wearsLeftOf, Cond.selects RX0 yX0_wearsLeftOf yX0_wearsLeftOf]
def wsX0_load_r2 : List Cond := [Cond.code yX0_wearsLeftOf cX0_wearsLeftOf 2 (some .int), Cond.fieldLink RX0 25 "WardrobeKeeper" "wearsLeft" "[I"]
def wsX0_load : List Cond := .code yX0_load cX0_load 5 (some .int) :: ((wsX0_load_r1 ++ wsX0_load_r2) ++ wsX00 ++ (vx_atS RX0 49 "java/lang/IllegalArgumentException" ["java/lang/RuntimeException", "java/lang/Exception"]).filter goodWord)
def wsX0_nextToWash : List Cond := .code yX0_nextToWash cX0_nextToWash 5 (some .int) :: ([.fieldLink RX0 52 "WardrobeKeeper" "added" "I", .fieldLink RX0 25 "WardrobeKeeper" "wearsLeft" "[I", .fieldLink RX0 19 "WardrobeKeeper" "wearsWhenClean" "[I", .methodLink RX0 146 yX0_isWashedWith, .instanceMethod yX0_isWashedWith, .selects RX0 yX0_isWashedWith yX0_isWashedWith, .initialized RX0, .code yX0_isWashedWith cX0_isWashedWith 4 (some .boolean), .fieldLink RX0 22 "WardrobeKeeper" "cares" "[I", .fieldLink RX0 13 "WardrobeKeeper" "colours" "[I", .methodLink RX0 64 yX0_isThing, .instanceMethod yX0_isThing, .selects RX0 yX0_isThing yX0_isThing, .code yX0_isThing cX0_isThing 2 (some .boolean), .fieldLink RX0 61 "WardrobeKeeper" "owned" "I", .methodLink RX0 150 yX0_wearsLeftOf, .instanceMethod yX0_wearsLeftOf, .selects RX0 yX0_wearsLeftOf yX0_wearsLeftOf, .code yX0_wearsLeftOf cX0_wearsLeftOf 2 (some .int)] ++ wsX00)
def wsX0_makeClean : List Cond := .code yX0_makeClean cX0_makeClean 2 none :: ([.fieldLink RX0 25 "WardrobeKeeper" "wearsLeft" "[I", .fieldLink RX0 19 "WardrobeKeeper" "wearsWhenClean" "[I", .methodLink RX0 64 yX0_isThing, .instanceMethod yX0_isThing, .selects RX0 yX0_isThing yX0_isThing, .initialized RX0, .code yX0_isThing cX0_isThing 2 (some .boolean), .fieldLink RX0 61 "WardrobeKeeper" "owned" "I"] ++ wsX00)
def wsX0_wash_r1 : List Cond := [Cond.classLink RX0 45 "java/lang/IllegalArgumentException", Cond.initialized "java/lang/IllegalArgumentException", Cond.methodLink RX0 42 yX0_isCare, Cond.static yX0_isCare, Cond.initialized RX0, Cond.code yX0_isCare cX0_isCare 1 (some .boolean), Cond.methodLink RX0 34 yX0_isWithin, Cond.static yX0_isWithin, Cond.code yX0_isWithin cX0_isWithin 3 (some .boolean), Cond.methodLink RX0 153 yX0_nextToWash, Cond.instanceMethod yX0_nextToWash, Cond.selects RX0 yX0_nextToWash yX0_nextToWash, Cond.code yX0_nextToWash cX0_nextToWash 5 (some .int), Cond.fieldLink RX0 52 "WardrobeKeeper" "added" "I", Cond.fieldLink RX0 25 "WardrobeKeeper" "wearsLeft" "[I", Cond.fieldLink RX0 19 "WardrobeKeeper" "wearsWhenClean" "[I", Cond.methodLink RX0 146 yX0_isWashedWith, Cond.instanceMethod yX0_isWashedWith, Cond.selects RX0 yX0_isWashedWith yX0_isWashedWith, Cond.code yX0_isWashedWith cX0_isWashedWith 4 (some .boolean), Cond.fieldLink RX0 22 "WardrobeKeeper" "cares" "[I", Cond.fieldLink RX0 13 "WardrobeKeeper" "colours" "[I", Cond.methodLink RX0 64 yX0_isThing, Cond.instanceMethod yX0_isThing]
def wsX0_wash_r2 : List Cond := [Cond.selects RX0 yX0_isThing yX0_isThing, Cond.code yX0_isThing cX0_isThing 2 (some .boolean), Cond.fieldLink RX0 61 "WardrobeKeeper" "owned" "I", Cond.methodLink RX0 150 yX0_wearsLeftOf, Cond.instanceMethod yX0_wearsLeftOf, Cond.selects RX0 yX0_wearsLeftOf yX0_wearsLeftOf, Cond.code yX0_wearsLeftOf cX0_wearsLeftOf 2 (some .int), Cond.methodLink RX0 157 yX0_makeClean, Cond.instanceMethod yX0_makeClean, Cond.selects RX0 yX0_makeClean yX0_makeClean, Cond.code yX0_makeClean cX0_makeClean 2 none]
def wsX0_wash : List Cond := .code yX0_wash cX0_wash 6 (some .int) :: ((wsX0_wash_r1 ++ wsX0_wash_r2) ++ wsX00 ++ (vx_atS RX0 49 "java/lang/IllegalArgumentException" ["java/lang/RuntimeException", "java/lang/Exception"]).filter goodWord)
def wsX0_pass : List Cond := .code yX0_pass cX0_pass 2 (some .int) :: ([.classLink RX0 45 "java/lang/IllegalArgumentException", .initialized "java/lang/IllegalArgumentException", .classLink RX0 56 "java/lang/IllegalStateException", .initialized "java/lang/IllegalStateException", .fieldLink RX0 162 "WardrobeKeeper" "today" "I", .methodLink RX0 34 yX0_isWithin, .static yX0_isWithin, .initialized RX0, .code yX0_isWithin cX0_isWithin 3 (some .boolean)] ++ wsX00 ++ (vx_atS RX0 49 "java/lang/IllegalArgumentException" ["java/lang/RuntimeException", "java/lang/Exception"]).filter goodWord ++ (vx_atS RX0 60 "java/lang/IllegalStateException" ["java/lang/RuntimeException", "java/lang/Exception"]).filter goodWord)
def wsX0_isBagQuestion : List Cond := .code yX0_isBagQuestion cX0_isBagQuestion 2 (some .boolean) :: ([.methodLink RX0 34 yX0_isWithin, .static yX0_isWithin, .initialized RX0, .code yX0_isWithin cX0_isWithin 3 (some .boolean)])
def wsX0_arePartners_r1 : List Cond := [Cond.methodLink RX0 97 yX0_areOfTheirKinds, Cond.instanceMethod yX0_areOfTheirKinds, Cond.selects RX0 yX0_areOfTheirKinds yX0_areOfTheirKinds, Cond.initialized RX0, Cond.code yX0_areOfTheirKinds cX0_areOfTheirKinds 4 (some .boolean), Cond.methodLink RX0 191 yX0_isOfKind, Cond.instanceMethod yX0_isOfKind, Cond.selects RX0 yX0_isOfKind yX0_isOfKind, Cond.code yX0_isOfKind cX0_isOfKind 3 (some .boolean), Cond.fieldLink RX0 9 "WardrobeKeeper" "kinds" "[I", Cond.methodLink RX0 64 yX0_isThing, Cond.instanceMethod yX0_isThing, Cond.selects RX0 yX0_isThing yX0_isThing, Cond.code yX0_isThing cX0_isThing 2 (some .boolean), Cond.fieldLink RX0 61 "WardrobeKeeper" "owned" "I", Cond.methodLink RX0 197 yX0_doClash, Cond.instanceMethod yX0_doClash, Cond.selects RX0 yX0_doClash yX0_doClash, Cond.code yX0_doClash cX0_doClash 3 (some .boolean), Cond.fieldLink RX0 13 "WardrobeKeeper" "colours" "[I", Cond.methodLink RX0 80 yX0_coloursClash, Cond.instanceMethod yX0_coloursClash, Cond.selects RX0 yX0_coloursClash yX0_coloursClash, Cond.code yX0_coloursClash cX0_coloursClash 3 (some .boolean)]
def wsX0_arePartners_r2 : List Cond := [Cond.fieldLink RX0 88 "WardrobeKeeper" "clashes" "J", Cond.methodLink RX0 84 yX0_clashBit, Cond.static yX0_clashBit, Cond.code yX0_clashBit cX0_clashBit 2 (some .long), Cond.methodLink RX0 123 yX0_outfitWarmth, Cond.instanceMethod yX0_outfitWarmth, Cond.selects RX0 yX0_outfitWarmth yX0_outfitWarmth, Cond.code yX0_outfitWarmth cX0_outfitWarmth 4 (some .int), Cond.methodLink RX0 203 yX0_warmthOf, Cond.instanceMethod yX0_warmthOf, Cond.selects RX0 yX0_warmthOf yX0_warmthOf, Cond.code yX0_warmthOf cX0_warmthOf 2 (some .int), Cond.fieldLink RX0 16 "WardrobeKeeper" "warmths" "[I"]
def wsX0_arePartners : List Cond := .code yX0_arePartners cX0_arePartners 4 (some .boolean) :: ((wsX0_arePartners_r1 ++ wsX0_arePartners_r2) ++ wsX00)
def wsX0_findPartners_r1 : List Cond := [Cond.fieldLink RX0 31 "WardrobeKeeper" "partners" "[I", Cond.fieldLink RX0 52 "WardrobeKeeper" "added" "I", Cond.methodLink RX0 209 yX0_arePartners, Cond.instanceMethod yX0_arePartners, Cond.selects RX0 yX0_arePartners yX0_arePartners, Cond.initialized RX0, Cond.code yX0_arePartners cX0_arePartners 4 (some .boolean), Cond.methodLink RX0 97 yX0_areOfTheirKinds, Cond.instanceMethod yX0_areOfTheirKinds, Cond.selects RX0 yX0_areOfTheirKinds yX0_areOfTheirKinds, Cond.code yX0_areOfTheirKinds cX0_areOfTheirKinds 4 (some .boolean), Cond.methodLink RX0 191 yX0_isOfKind, Cond.instanceMethod yX0_isOfKind, Cond.selects RX0 yX0_isOfKind yX0_isOfKind, Cond.code yX0_isOfKind cX0_isOfKind 3 (some .boolean), Cond.fieldLink RX0 9 "WardrobeKeeper" "kinds" "[I", Cond.methodLink RX0 64 yX0_isThing, Cond.instanceMethod yX0_isThing, Cond.selects RX0 yX0_isThing yX0_isThing, Cond.code yX0_isThing cX0_isThing 2 (some .boolean), Cond.fieldLink RX0 61 "WardrobeKeeper" "owned" "I", Cond.methodLink RX0 197 yX0_doClash, Cond.instanceMethod yX0_doClash, Cond.selects RX0 yX0_doClash yX0_doClash]
def wsX0_findPartners_r2 : List Cond := [Cond.code yX0_doClash cX0_doClash 3 (some .boolean), Cond.fieldLink RX0 13 "WardrobeKeeper" "colours" "[I", Cond.methodLink RX0 80 yX0_coloursClash, Cond.instanceMethod yX0_coloursClash, Cond.selects RX0 yX0_coloursClash yX0_coloursClash, Cond.code yX0_coloursClash cX0_coloursClash 3 (some .boolean), Cond.fieldLink RX0 88 "WardrobeKeeper" "clashes" "J", Cond.methodLink RX0 84 yX0_clashBit, Cond.static yX0_clashBit, Cond.code yX0_clashBit cX0_clashBit 2 (some .long), Cond.methodLink RX0 123 yX0_outfitWarmth, Cond.instanceMethod yX0_outfitWarmth, Cond.selects RX0 yX0_outfitWarmth yX0_outfitWarmth, Cond.code yX0_outfitWarmth cX0_outfitWarmth 4 (some .int), Cond.methodLink RX0 203 yX0_warmthOf, Cond.instanceMethod yX0_warmthOf, Cond.selects RX0 yX0_warmthOf yX0_warmthOf, Cond.code yX0_warmthOf cX0_warmthOf 2 (some .int), Cond.fieldLink RX0 16 "WardrobeKeeper" "warmths" "[I"]
def wsX0_findPartners : List Cond := .code yX0_findPartners cX0_findPartners 4 none :: ((wsX0_findPartners_r1 ++ wsX0_findPartners_r2) ++ wsX00)
def wsX0_thingsOfKind : List Cond := .code yX0_thingsOfKind cX0_thingsOfKind 4 (some .int) :: ([.fieldLink RX0 52 "WardrobeKeeper" "added" "I", .methodLink RX0 191 yX0_isOfKind, .instanceMethod yX0_isOfKind, .selects RX0 yX0_isOfKind yX0_isOfKind, .initialized RX0, .code yX0_isOfKind cX0_isOfKind 3 (some .boolean), .fieldLink RX0 9 "WardrobeKeeper" "kinds" "[I", .methodLink RX0 64 yX0_isThing, .instanceMethod yX0_isThing, .selects RX0 yX0_isThing yX0_isThing, .code yX0_isThing cX0_isThing 2 (some .boolean), .fieldLink RX0 61 "WardrobeKeeper" "owned" "I"] ++ wsX00)
def wsX0_wearsLeftIn : List Cond := .code yX0_wearsLeftIn cX0_wearsLeftIn 4 (some .int) :: ([.fieldLink RX0 25 "WardrobeKeeper" "wearsLeft" "[I"] ++ wsX00)
def wsX0_partnersOf : List Cond := .code yX0_partnersOf cX0_partnersOf 4 (some .int) :: ([.fieldLink RX0 31 "WardrobeKeeper" "partners" "[I"] ++ wsX00)
def wsX0_nextPart : List Cond := .code yX0_nextPart cX0_nextPart 2 (some .int) :: ([])
def wsX0_lasts : List Cond := .code yX0_lasts cX0_lasts 9 (some .boolean) :: ([.methodLink RX0 72 yJ6_bitCount_0f7a4, .static yJ6_bitCount_0f7a4, .initialized RJ6, .code yJ6_bitCount_0f7a4 cJ6_bitCount_0f7a4 1 (some .int), .constant RJ6 265 (1431655765), .constant RJ6 266 (858993459), .constant RJ6 267 (252645135), .methodLink RX0 212 yX0_wearsLeftIn, .instanceMethod yX0_wearsLeftIn, .selects RX0 yX0_wearsLeftIn yX0_wearsLeftIn, .initialized RX0, .code yX0_wearsLeftIn cX0_wearsLeftIn 4 (some .int), .fieldLink RX0 25 "WardrobeKeeper" "wearsLeft" "[I", .methodLink RX0 215 yX0_partnersOf, .instanceMethod yX0_partnersOf, .selects RX0 yX0_partnersOf yX0_partnersOf, .code yX0_partnersOf cX0_partnersOf 4 (some .int), .fieldLink RX0 31 "WardrobeKeeper" "partners" "[I", .methodLink RX0 187 yX0_nextPart, .static yX0_nextPart, .code yX0_nextPart cX0_nextPart 2 (some .int)] ++ wsX00)
def wsX0_isEnough_r1 : List Cond := [Cond.classLink RX0 45 "java/lang/IllegalArgumentException", Cond.initialized "java/lang/IllegalArgumentException", Cond.fieldLink RX0 61 "WardrobeKeeper" "owned" "I", Cond.methodLink RX0 167 yX0_isBagQuestion, Cond.static yX0_isBagQuestion, Cond.initialized RX0, Cond.code yX0_isBagQuestion cX0_isBagQuestion 2 (some .boolean), Cond.methodLink RX0 34 yX0_isWithin, Cond.static yX0_isWithin, Cond.code yX0_isWithin cX0_isWithin 3 (some .boolean), Cond.methodLink RX0 172 yX0_findPartners, Cond.instanceMethod yX0_findPartners, Cond.selects RX0 yX0_findPartners yX0_findPartners, Cond.code yX0_findPartners cX0_findPartners 4 none, Cond.fieldLink RX0 31 "WardrobeKeeper" "partners" "[I", Cond.fieldLink RX0 52 "WardrobeKeeper" "added" "I", Cond.methodLink RX0 209 yX0_arePartners, Cond.instanceMethod yX0_arePartners, Cond.selects RX0 yX0_arePartners yX0_arePartners, Cond.code yX0_arePartners cX0_arePartners 4 (some .boolean), Cond.methodLink RX0 97 yX0_areOfTheirKinds, Cond.instanceMethod yX0_areOfTheirKinds, Cond.selects RX0 yX0_areOfTheirKinds yX0_areOfTheirKinds, Cond.code yX0_areOfTheirKinds cX0_areOfTheirKinds 4 (some .boolean)]
def wsX0_isEnough_r2 : List Cond := [Cond.methodLink RX0 191 yX0_isOfKind, Cond.instanceMethod yX0_isOfKind, Cond.selects RX0 yX0_isOfKind yX0_isOfKind, Cond.code yX0_isOfKind cX0_isOfKind 3 (some .boolean), Cond.fieldLink RX0 9 "WardrobeKeeper" "kinds" "[I", Cond.methodLink RX0 64 yX0_isThing, Cond.instanceMethod yX0_isThing, Cond.selects RX0 yX0_isThing yX0_isThing, Cond.code yX0_isThing cX0_isThing 2 (some .boolean), Cond.methodLink RX0 197 yX0_doClash, Cond.instanceMethod yX0_doClash, Cond.selects RX0 yX0_doClash yX0_doClash, Cond.code yX0_doClash cX0_doClash 3 (some .boolean), Cond.fieldLink RX0 13 "WardrobeKeeper" "colours" "[I", Cond.methodLink RX0 80 yX0_coloursClash, Cond.instanceMethod yX0_coloursClash, Cond.selects RX0 yX0_coloursClash yX0_coloursClash, Cond.code yX0_coloursClash cX0_coloursClash 3 (some .boolean), Cond.fieldLink RX0 88 "WardrobeKeeper" "clashes" "J", Cond.methodLink RX0 84 yX0_clashBit, Cond.static yX0_clashBit, Cond.code yX0_clashBit cX0_clashBit 2 (some .long), Cond.methodLink RX0 123 yX0_outfitWarmth, Cond.instanceMethod yX0_outfitWarmth]
def wsX0_isEnough_r3 : List Cond := [Cond.selects RX0 yX0_outfitWarmth yX0_outfitWarmth, Cond.code yX0_outfitWarmth cX0_outfitWarmth 4 (some .int), Cond.methodLink RX0 203 yX0_warmthOf, Cond.instanceMethod yX0_warmthOf, Cond.selects RX0 yX0_warmthOf yX0_warmthOf, Cond.code yX0_warmthOf cX0_warmthOf 2 (some .int), Cond.fieldLink RX0 16 "WardrobeKeeper" "warmths" "[I", Cond.methodLink RX0 175 yX0_thingsOfKind, Cond.instanceMethod yX0_thingsOfKind, Cond.selects RX0 yX0_thingsOfKind yX0_thingsOfKind, Cond.code yX0_thingsOfKind cX0_thingsOfKind 4 (some .int), Cond.methodLink RX0 178 yX0_lasts, Cond.instanceMethod yX0_lasts, Cond.selects RX0 yX0_lasts yX0_lasts, Cond.code yX0_lasts cX0_lasts 9 (some .boolean), Cond.methodLink RX0 72 yJ6_bitCount_0f7a4, Cond.static yJ6_bitCount_0f7a4, Cond.initialized RJ6, Cond.code yJ6_bitCount_0f7a4 cJ6_bitCount_0f7a4 1 (some .int), Cond.constant RJ6 265 (1431655765), Cond.constant RJ6 266 (858993459), Cond.constant RJ6 267 (252645135), Cond.methodLink RX0 212 yX0_wearsLeftIn, Cond.instanceMethod yX0_wearsLeftIn]
def wsX0_isEnough_r4 : List Cond := [Cond.selects RX0 yX0_wearsLeftIn yX0_wearsLeftIn, Cond.code yX0_wearsLeftIn cX0_wearsLeftIn 4 (some .int), Cond.fieldLink RX0 25 "WardrobeKeeper" "wearsLeft" "[I", Cond.methodLink RX0 215 yX0_partnersOf, Cond.instanceMethod yX0_partnersOf, Cond.selects RX0 yX0_partnersOf yX0_partnersOf, Cond.code yX0_partnersOf cX0_partnersOf 4 (some .int), Cond.methodLink RX0 187 yX0_nextPart, Cond.static yX0_nextPart, Cond.code yX0_nextPart cX0_nextPart 2 (some .int)]
def wsX0_isEnough : List Cond := .code yX0_isEnough cX0_isEnough 4 (some .boolean) :: ((wsX0_isEnough_r1 ++ (wsX0_isEnough_r2 ++ (wsX0_isEnough_r3 ++ wsX0_isEnough_r4))) ++ wsX00 ++ (vx_atS RX0 49 "java/lang/IllegalArgumentException" ["java/lang/RuntimeException", "java/lang/Exception"]).filter goodWord)
def wsX0_usefulThings : List Cond := .code yX0_usefulThings cX0_usefulThings 3 (some .int) :: ([.fieldLink RX0 52 "WardrobeKeeper" "added" "I", .fieldLink RX0 31 "WardrobeKeeper" "partners" "[I", .methodLink RX0 150 yX0_wearsLeftOf, .instanceMethod yX0_wearsLeftOf, .selects RX0 yX0_wearsLeftOf yX0_wearsLeftOf, .initialized RX0, .code yX0_wearsLeftOf cX0_wearsLeftOf 2 (some .int), .fieldLink RX0 25 "WardrobeKeeper" "wearsLeft" "[I", .methodLink RX0 64 yX0_isThing, .instanceMethod yX0_isThing, .selects RX0 yX0_isThing yX0_isThing, .code yX0_isThing cX0_isThing 2 (some .boolean), .fieldLink RX0 61 "WardrobeKeeper" "owned" "I"] ++ wsX00)
def wsX0_bag_r1 : List Cond := [Cond.classLink RX0 45 "java/lang/IllegalArgumentException", Cond.initialized "java/lang/IllegalArgumentException", Cond.methodLink RX0 167 yX0_isBagQuestion, Cond.static yX0_isBagQuestion, Cond.initialized RX0, Cond.code yX0_isBagQuestion cX0_isBagQuestion 2 (some .boolean), Cond.methodLink RX0 34 yX0_isWithin, Cond.static yX0_isWithin, Cond.code yX0_isWithin cX0_isWithin 3 (some .boolean), Cond.methodLink RX0 172 yX0_findPartners, Cond.instanceMethod yX0_findPartners, Cond.selects RX0 yX0_findPartners yX0_findPartners, Cond.code yX0_findPartners cX0_findPartners 4 none, Cond.fieldLink RX0 31 "WardrobeKeeper" "partners" "[I", Cond.fieldLink RX0 52 "WardrobeKeeper" "added" "I", Cond.methodLink RX0 209 yX0_arePartners, Cond.instanceMethod yX0_arePartners, Cond.selects RX0 yX0_arePartners yX0_arePartners, Cond.code yX0_arePartners cX0_arePartners 4 (some .boolean), Cond.methodLink RX0 97 yX0_areOfTheirKinds, Cond.instanceMethod yX0_areOfTheirKinds, Cond.selects RX0 yX0_areOfTheirKinds yX0_areOfTheirKinds, Cond.code yX0_areOfTheirKinds cX0_areOfTheirKinds 4 (some .boolean), Cond.methodLink RX0 191 yX0_isOfKind]
def wsX0_bag_r2 : List Cond := [Cond.instanceMethod yX0_isOfKind, Cond.selects RX0 yX0_isOfKind yX0_isOfKind, Cond.code yX0_isOfKind cX0_isOfKind 3 (some .boolean), Cond.fieldLink RX0 9 "WardrobeKeeper" "kinds" "[I", Cond.methodLink RX0 64 yX0_isThing, Cond.instanceMethod yX0_isThing, Cond.selects RX0 yX0_isThing yX0_isThing, Cond.code yX0_isThing cX0_isThing 2 (some .boolean), Cond.fieldLink RX0 61 "WardrobeKeeper" "owned" "I", Cond.methodLink RX0 197 yX0_doClash, Cond.instanceMethod yX0_doClash, Cond.selects RX0 yX0_doClash yX0_doClash, Cond.code yX0_doClash cX0_doClash 3 (some .boolean), Cond.fieldLink RX0 13 "WardrobeKeeper" "colours" "[I", Cond.methodLink RX0 80 yX0_coloursClash, Cond.instanceMethod yX0_coloursClash, Cond.selects RX0 yX0_coloursClash yX0_coloursClash, Cond.code yX0_coloursClash cX0_coloursClash 3 (some .boolean), Cond.fieldLink RX0 88 "WardrobeKeeper" "clashes" "J", Cond.methodLink RX0 84 yX0_clashBit, Cond.static yX0_clashBit, Cond.code yX0_clashBit cX0_clashBit 2 (some .long), Cond.methodLink RX0 123 yX0_outfitWarmth, Cond.instanceMethod yX0_outfitWarmth]
def wsX0_bag_r3 : List Cond := [Cond.selects RX0 yX0_outfitWarmth yX0_outfitWarmth, Cond.code yX0_outfitWarmth cX0_outfitWarmth 4 (some .int), Cond.methodLink RX0 203 yX0_warmthOf, Cond.instanceMethod yX0_warmthOf, Cond.selects RX0 yX0_warmthOf yX0_warmthOf, Cond.code yX0_warmthOf cX0_warmthOf 2 (some .int), Cond.fieldLink RX0 16 "WardrobeKeeper" "warmths" "[I", Cond.methodLink RX0 183 yX0_usefulThings, Cond.instanceMethod yX0_usefulThings, Cond.selects RX0 yX0_usefulThings yX0_usefulThings, Cond.code yX0_usefulThings cX0_usefulThings 3 (some .int), Cond.methodLink RX0 150 yX0_wearsLeftOf, Cond.instanceMethod yX0_wearsLeftOf, Cond.selects RX0 yX0_wearsLeftOf yX0_wearsLeftOf, Cond.code yX0_wearsLeftOf cX0_wearsLeftOf 2 (some .int), Cond.fieldLink RX0 25 "WardrobeKeeper" "wearsLeft" "[I", Cond.methodLink RX0 175 yX0_thingsOfKind, Cond.instanceMethod yX0_thingsOfKind, Cond.selects RX0 yX0_thingsOfKind yX0_thingsOfKind, Cond.code yX0_thingsOfKind cX0_thingsOfKind 4 (some .int), Cond.methodLink RX0 178 yX0_lasts, Cond.instanceMethod yX0_lasts, Cond.selects RX0 yX0_lasts yX0_lasts, Cond.code yX0_lasts cX0_lasts 9 (some .boolean)]
def wsX0_bag_r4 : List Cond := [Cond.methodLink RX0 72 yJ6_bitCount_0f7a4, Cond.static yJ6_bitCount_0f7a4, Cond.initialized RJ6, Cond.code yJ6_bitCount_0f7a4 cJ6_bitCount_0f7a4 1 (some .int), Cond.constant RJ6 265 (1431655765), Cond.constant RJ6 266 (858993459), Cond.constant RJ6 267 (252645135), Cond.methodLink RX0 212 yX0_wearsLeftIn, Cond.instanceMethod yX0_wearsLeftIn, Cond.selects RX0 yX0_wearsLeftIn yX0_wearsLeftIn, Cond.code yX0_wearsLeftIn cX0_wearsLeftIn 4 (some .int), Cond.methodLink RX0 215 yX0_partnersOf, Cond.instanceMethod yX0_partnersOf, Cond.selects RX0 yX0_partnersOf yX0_partnersOf, Cond.code yX0_partnersOf cX0_partnersOf 4 (some .int), Cond.methodLink RX0 187 yX0_nextPart, Cond.static yX0_nextPart, Cond.code yX0_nextPart cX0_nextPart 2 (some .int)]
def wsX0_bag : List Cond := .code yX0_bag cX0_bag 11 (some .int) :: ((wsX0_bag_r1 ++ (wsX0_bag_r2 ++ (wsX0_bag_r3 ++ wsX0_bag_r4))) ++ wsX00 ++ (vx_atS RX0 49 "java/lang/IllegalArgumentException" ["java/lang/RuntimeException", "java/lang/Exception"]).filter goodWord)
def wsX1_init : List Cond := .code yX1_init cX1_init 1 none :: ([.methodLink RX1 1 objectInit, .instanceMethod objectInit, .code objectInit ⟨#[0xb1]⟩ 1 none, .arrayClass .boolean, .fieldLink RX1 7 "WardrobeKeeperModel" "isGone" "[Z", .arrayClass .int, .fieldLink RX1 13 "WardrobeKeeperModel" "kinds" "[I", .fieldLink RX1 17 "WardrobeKeeperModel" "colours" "[I", .fieldLink RX1 20 "WardrobeKeeperModel" "warmths" "[I", .fieldLink RX1 23 "WardrobeKeeperModel" "wears" "[I", .fieldLink RX1 26 "WardrobeKeeperModel" "cares" "[I", .fieldLink RX1 29 "WardrobeKeeperModel" "lefts" "[I", .fieldLink RX1 32 "WardrobeKeeperModel" "clash" "[Z", .fieldLink RX1 35 "WardrobeKeeperModel" "seen" "[I", .fieldLink RX1 38 "WardrobeKeeperModel" "goesWith" "[I"] ++ wsX10)
def wsX1_thrown : List Cond := .code yX1_thrown cX1_thrown 1 (some .int) :: ([.fieldLink RX1 41 "WardrobeKeeperModel" "thrown" "I"] ++ wsX10)
def wsX1_goes : List Cond := .code yX1_goes cX1_goes 2 (some .boolean) :: ([.fieldLink RX1 41 "WardrobeKeeperModel" "thrown" "I"] ++ wsX10)
def wsX1_isIn : List Cond := .code yX1_isIn cX1_isIn 3 (some .boolean) :: ([])
def wsX1_isThing : List Cond := .code yX1_isThing cX1_isThing 2 (some .boolean) :: ([.fieldLink RX1 45 "WardrobeKeeperModel" "added" "I", .fieldLink RX1 7 "WardrobeKeeperModel" "isGone" "[Z", .methodLink RX1 48 yX1_isIn, .static yX1_isIn, .initialized RX1, .code yX1_isIn cX1_isIn 3 (some .boolean)] ++ wsX10)
def wsX1_isColour : List Cond := .code yX1_isColour cX1_isColour 1 (some .boolean) :: ([.methodLink RX1 48 yX1_isIn, .static yX1_isIn, .initialized RX1, .code yX1_isIn cX1_isIn 3 (some .boolean)])
def wsX1_arePeople : List Cond := .code yX1_arePeople cX1_arePeople 1 (some .boolean) :: ([.methodLink RX1 48 yX1_isIn, .static yX1_isIn, .initialized RX1, .code yX1_isIn cX1_isIn 3 (some .boolean)])
def wsX1_isCare : List Cond := .code yX1_isCare cX1_isCare 1 (some .boolean) :: ([.methodLink RX1 48 yX1_isIn, .static yX1_isIn, .initialized RX1, .code yX1_isIn cX1_isIn 3 (some .boolean)])
def wsX1_add : List Cond := .code yX1_add cX1_add 7 (some .int) :: ([.fieldLink RX1 45 "WardrobeKeeperModel" "added" "I", .fieldLink RX1 13 "WardrobeKeeperModel" "kinds" "[I", .fieldLink RX1 17 "WardrobeKeeperModel" "colours" "[I", .fieldLink RX1 20 "WardrobeKeeperModel" "warmths" "[I", .fieldLink RX1 23 "WardrobeKeeperModel" "wears" "[I", .fieldLink RX1 26 "WardrobeKeeperModel" "cares" "[I", .fieldLink RX1 29 "WardrobeKeeperModel" "lefts" "[I", .methodLink RX1 48 yX1_isIn, .static yX1_isIn, .initialized RX1, .code yX1_isIn cX1_isIn 3 (some .boolean), .methodLink RX1 52 yX1_isColour, .static yX1_isColour, .code yX1_isColour cX1_isColour 1 (some .boolean), .methodLink RX1 56 yX1_isCare, .static yX1_isCare, .code yX1_isCare cX1_isCare 1 (some .boolean), .methodLink RX1 59 yX1_goes, .instanceMethod yX1_goes, .selects RX1 yX1_goes yX1_goes, .code yX1_goes cX1_goes 2 (some .boolean), .fieldLink RX1 41 "WardrobeKeeperModel" "thrown" "I"] ++ wsX10)
def wsX1_here : List Cond := .code yX1_here cX1_here 3 (some .int) :: ([.fieldLink RX1 45 "WardrobeKeeperModel" "added" "I", .fieldLink RX1 7 "WardrobeKeeperModel" "isGone" "[Z"] ++ wsX10)
def wsX1_giveAway : List Cond := .code yX1_giveAway cX1_giveAway 2 (some .int) :: ([.fieldLink RX1 7 "WardrobeKeeperModel" "isGone" "[Z", .methodLink RX1 62 yX1_isThing, .instanceMethod yX1_isThing, .selects RX1 yX1_isThing yX1_isThing, .initialized RX1, .code yX1_isThing cX1_isThing 2 (some .boolean), .fieldLink RX1 45 "WardrobeKeeperModel" "added" "I", .methodLink RX1 48 yX1_isIn, .static yX1_isIn, .code yX1_isIn cX1_isIn 3 (some .boolean), .methodLink RX1 59 yX1_goes, .instanceMethod yX1_goes, .selects RX1 yX1_goes yX1_goes, .code yX1_goes cX1_goes 2 (some .boolean), .fieldLink RX1 41 "WardrobeKeeperModel" "thrown" "I", .methodLink RX1 65 yX1_here, .instanceMethod yX1_here, .selects RX1 yX1_here yX1_here, .code yX1_here cX1_here 3 (some .int)] ++ wsX10)
def wsX1_setClash : List Cond := .code yX1_setClash cX1_setClash 5 (some .boolean) :: ([.fieldLink RX1 32 "WardrobeKeeperModel" "clash" "[Z", .methodLink RX1 52 yX1_isColour, .static yX1_isColour, .initialized RX1, .code yX1_isColour cX1_isColour 1 (some .boolean), .methodLink RX1 48 yX1_isIn, .static yX1_isIn, .code yX1_isIn cX1_isIn 3 (some .boolean), .methodLink RX1 59 yX1_goes, .instanceMethod yX1_goes, .selects RX1 yX1_goes yX1_goes, .code yX1_goes cX1_goes 2 (some .boolean), .fieldLink RX1 41 "WardrobeKeeperModel" "thrown" "I"] ++ wsX10)
def wsX1_things : List Cond := .code yX1_things cX1_things 1 (some .int) :: ([.fieldLink RX1 41 "WardrobeKeeperModel" "thrown" "I", .methodLink RX1 65 yX1_here, .instanceMethod yX1_here, .selects RX1 yX1_here yX1_here, .initialized RX1, .code yX1_here cX1_here 3 (some .int), .fieldLink RX1 45 "WardrobeKeeperModel" "added" "I", .fieldLink RX1 7 "WardrobeKeeperModel" "isGone" "[Z"] ++ wsX10)
def wsX1_left : List Cond := .code yX1_left cX1_left 2 (some .int) :: ([.fieldLink RX1 29 "WardrobeKeeperModel" "lefts" "[I", .methodLink RX1 62 yX1_isThing, .instanceMethod yX1_isThing, .selects RX1 yX1_isThing yX1_isThing, .initialized RX1, .code yX1_isThing cX1_isThing 2 (some .boolean), .fieldLink RX1 45 "WardrobeKeeperModel" "added" "I", .fieldLink RX1 7 "WardrobeKeeperModel" "isGone" "[Z", .methodLink RX1 48 yX1_isIn, .static yX1_isIn, .code yX1_isIn cX1_isIn 3 (some .boolean), .methodLink RX1 59 yX1_goes, .instanceMethod yX1_goes, .selects RX1 yX1_goes yX1_goes, .code yX1_goes cX1_goes 2 (some .boolean), .fieldLink RX1 41 "WardrobeKeeperModel" "thrown" "I"] ++ wsX10)
def wsX1_doClash : List Cond := .code yX1_doClash cX1_doClash 3 (some .boolean) :: ([.fieldLink RX1 32 "WardrobeKeeperModel" "clash" "[Z", .fieldLink RX1 17 "WardrobeKeeperModel" "colours" "[I"] ++ wsX10)
def wsX1_wrong : List Cond := .code yX1_wrong cX1_wrong 5 (some .int) :: ([.fieldLink RX1 13 "WardrobeKeeperModel" "kinds" "[I", .methodLink RX1 62 yX1_isThing, .instanceMethod yX1_isThing, .selects RX1 yX1_isThing yX1_isThing, .initialized RX1, .code yX1_isThing cX1_isThing 2 (some .boolean), .fieldLink RX1 45 "WardrobeKeeperModel" "added" "I", .fieldLink RX1 7 "WardrobeKeeperModel" "isGone" "[Z", .methodLink RX1 48 yX1_isIn, .static yX1_isIn, .code yX1_isIn cX1_isIn 3 (some .boolean)] ++ wsX10)
def wsX1_fits : List Cond := .code yX1_fits cX1_fits 5 (some .boolean) :: ([.fieldLink RX1 29 "WardrobeKeeperModel" "lefts" "[I", .methodLink RX1 69 yX1_doClash, .instanceMethod yX1_doClash, .selects RX1 yX1_doClash yX1_doClash, .initialized RX1, .code yX1_doClash cX1_doClash 3 (some .boolean), .fieldLink RX1 32 "WardrobeKeeperModel" "clash" "[Z", .fieldLink RX1 17 "WardrobeKeeperModel" "colours" "[I"] ++ wsX10)
def wsX1_warmthOf : List Cond := .code yX1_warmthOf cX1_warmthOf 4 (some .int) :: ([.fieldLink RX1 20 "WardrobeKeeperModel" "warmths" "[I"] ++ wsX10)
def wsX1_isSoon : List Cond := .code yX1_isSoon cX1_isSoon 7 (some .boolean) :: ([.fieldLink RX1 35 "WardrobeKeeperModel" "seen" "[I", .fieldLink RX1 73 "WardrobeKeeperModel" "today" "I"] ++ wsX10)
def wsX1_isPossible_r1 : List Cond := [Cond.methodLink RX1 76 yX1_wrong, Cond.instanceMethod yX1_wrong, Cond.selects RX1 yX1_wrong yX1_wrong, Cond.initialized RX1, Cond.code yX1_wrong cX1_wrong 5 (some .int), Cond.fieldLink RX1 13 "WardrobeKeeperModel" "kinds" "[I", Cond.methodLink RX1 62 yX1_isThing, Cond.instanceMethod yX1_isThing, Cond.selects RX1 yX1_isThing yX1_isThing, Cond.code yX1_isThing cX1_isThing 2 (some .boolean), Cond.fieldLink RX1 45 "WardrobeKeeperModel" "added" "I", Cond.fieldLink RX1 7 "WardrobeKeeperModel" "isGone" "[Z", Cond.methodLink RX1 48 yX1_isIn, Cond.static yX1_isIn, Cond.code yX1_isIn cX1_isIn 3 (some .boolean), Cond.methodLink RX1 59 yX1_goes, Cond.instanceMethod yX1_goes, Cond.selects RX1 yX1_goes yX1_goes, Cond.code yX1_goes cX1_goes 2 (some .boolean), Cond.fieldLink RX1 41 "WardrobeKeeperModel" "thrown" "I", Cond.methodLink RX1 80 yX1_fits, Cond.instanceMethod yX1_fits, Cond.selects RX1 yX1_fits yX1_fits, Cond.code yX1_fits cX1_fits 5 (some .boolean)]
def wsX1_isPossible_r2 : List Cond := [Cond.fieldLink RX1 29 "WardrobeKeeperModel" "lefts" "[I", Cond.methodLink RX1 69 yX1_doClash, Cond.instanceMethod yX1_doClash, Cond.selects RX1 yX1_doClash yX1_doClash, Cond.code yX1_doClash cX1_doClash 3 (some .boolean), Cond.fieldLink RX1 32 "WardrobeKeeperModel" "clash" "[Z", Cond.fieldLink RX1 17 "WardrobeKeeperModel" "colours" "[I"]
def wsX1_isPossible : List Cond := .code yX1_isPossible cX1_isPossible 4 (some .boolean) :: ((wsX1_isPossible_r1 ++ wsX1_isPossible_r2) ++ wsX10)
def wsX1_isTooSoon_r1 : List Cond := [Cond.methodLink RX1 76 yX1_wrong, Cond.instanceMethod yX1_wrong, Cond.selects RX1 yX1_wrong yX1_wrong, Cond.initialized RX1, Cond.code yX1_wrong cX1_wrong 5 (some .int), Cond.fieldLink RX1 13 "WardrobeKeeperModel" "kinds" "[I", Cond.methodLink RX1 62 yX1_isThing, Cond.instanceMethod yX1_isThing, Cond.selects RX1 yX1_isThing yX1_isThing, Cond.code yX1_isThing cX1_isThing 2 (some .boolean), Cond.fieldLink RX1 45 "WardrobeKeeperModel" "added" "I", Cond.fieldLink RX1 7 "WardrobeKeeperModel" "isGone" "[Z", Cond.methodLink RX1 48 yX1_isIn, Cond.static yX1_isIn, Cond.code yX1_isIn cX1_isIn 3 (some .boolean), Cond.methodLink RX1 83 yX1_arePeople, Cond.static yX1_arePeople, Cond.code yX1_arePeople cX1_arePeople 1 (some .boolean), Cond.methodLink RX1 59 yX1_goes, Cond.instanceMethod yX1_goes, Cond.selects RX1 yX1_goes yX1_goes, Cond.code yX1_goes cX1_goes 2 (some .boolean), Cond.fieldLink RX1 41 "WardrobeKeeperModel" "thrown" "I", Cond.methodLink RX1 86 yX1_isSoon]
def wsX1_isTooSoon_r2 : List Cond := [Cond.instanceMethod yX1_isSoon, Cond.selects RX1 yX1_isSoon yX1_isSoon, Cond.code yX1_isSoon cX1_isSoon 7 (some .boolean), Cond.fieldLink RX1 35 "WardrobeKeeperModel" "seen" "[I", Cond.fieldLink RX1 73 "WardrobeKeeperModel" "today" "I"]
def wsX1_isTooSoon : List Cond := .code yX1_isTooSoon cX1_isTooSoon 5 (some .boolean) :: ((wsX1_isTooSoon_r1 ++ wsX1_isTooSoon_r2) ++ wsX10)
def wsX1_wear_r1 : List Cond := [Cond.fieldLink RX1 29 "WardrobeKeeperModel" "lefts" "[I", Cond.fieldLink RX1 35 "WardrobeKeeperModel" "seen" "[I", Cond.fieldLink RX1 73 "WardrobeKeeperModel" "today" "I", Cond.methodLink RX1 76 yX1_wrong, Cond.instanceMethod yX1_wrong, Cond.selects RX1 yX1_wrong yX1_wrong, Cond.initialized RX1, Cond.code yX1_wrong cX1_wrong 5 (some .int), Cond.fieldLink RX1 13 "WardrobeKeeperModel" "kinds" "[I", Cond.methodLink RX1 62 yX1_isThing, Cond.instanceMethod yX1_isThing, Cond.selects RX1 yX1_isThing yX1_isThing, Cond.code yX1_isThing cX1_isThing 2 (some .boolean), Cond.fieldLink RX1 45 "WardrobeKeeperModel" "added" "I", Cond.fieldLink RX1 7 "WardrobeKeeperModel" "isGone" "[Z", Cond.methodLink RX1 48 yX1_isIn, Cond.static yX1_isIn, Cond.code yX1_isIn cX1_isIn 3 (some .boolean), Cond.methodLink RX1 83 yX1_arePeople, Cond.static yX1_arePeople, Cond.code yX1_arePeople cX1_arePeople 1 (some .boolean), Cond.methodLink RX1 80 yX1_fits, Cond.instanceMethod yX1_fits, Cond.selects RX1 yX1_fits yX1_fits]
def wsX1_wear_r2 : List Cond := [Cond.code yX1_fits cX1_fits 5 (some .boolean), Cond.methodLink RX1 69 yX1_doClash, Cond.instanceMethod yX1_doClash, Cond.selects RX1 yX1_doClash yX1_doClash, Cond.code yX1_doClash cX1_doClash 3 (some .boolean), Cond.fieldLink RX1 32 "WardrobeKeeperModel" "clash" "[Z", Cond.fieldLink RX1 17 "WardrobeKeeperModel" "colours" "[I", Cond.methodLink RX1 86 yX1_isSoon, Cond.instanceMethod yX1_isSoon, Cond.selects RX1 yX1_isSoon yX1_isSoon, Cond.code yX1_isSoon cX1_isSoon 7 (some .boolean), Cond.methodLink RX1 59 yX1_goes, Cond.instanceMethod yX1_goes, Cond.selects RX1 yX1_goes yX1_goes, Cond.code yX1_goes cX1_goes 2 (some .boolean), Cond.fieldLink RX1 41 "WardrobeKeeperModel" "thrown" "I", Cond.methodLink RX1 89 yX1_warmthOf, Cond.instanceMethod yX1_warmthOf, Cond.selects RX1 yX1_warmthOf yX1_warmthOf, Cond.code yX1_warmthOf cX1_warmthOf 4 (some .int), Cond.fieldLink RX1 20 "WardrobeKeeperModel" "warmths" "[I"]
def wsX1_wear : List Cond := .code yX1_wear cX1_wear 8 (some .int) :: ((wsX1_wear_r1 ++ wsX1_wear_r2) ++ wsX10)
def wsX1_count_r1 : List Cond := [Cond.methodLink RX1 76 yX1_wrong, Cond.instanceMethod yX1_wrong, Cond.selects RX1 yX1_wrong yX1_wrong, Cond.initialized RX1, Cond.code yX1_wrong cX1_wrong 5 (some .int), Cond.fieldLink RX1 13 "WardrobeKeeperModel" "kinds" "[I", Cond.methodLink RX1 62 yX1_isThing, Cond.instanceMethod yX1_isThing, Cond.selects RX1 yX1_isThing yX1_isThing, Cond.code yX1_isThing cX1_isThing 2 (some .boolean), Cond.fieldLink RX1 45 "WardrobeKeeperModel" "added" "I", Cond.fieldLink RX1 7 "WardrobeKeeperModel" "isGone" "[Z", Cond.methodLink RX1 48 yX1_isIn, Cond.static yX1_isIn, Cond.code yX1_isIn cX1_isIn 3 (some .boolean), Cond.methodLink RX1 80 yX1_fits, Cond.instanceMethod yX1_fits, Cond.selects RX1 yX1_fits yX1_fits, Cond.code yX1_fits cX1_fits 5 (some .boolean), Cond.fieldLink RX1 29 "WardrobeKeeperModel" "lefts" "[I", Cond.methodLink RX1 69 yX1_doClash, Cond.instanceMethod yX1_doClash, Cond.selects RX1 yX1_doClash yX1_doClash, Cond.code yX1_doClash cX1_doClash 3 (some .boolean)]
def wsX1_count_r2 : List Cond := [Cond.fieldLink RX1 32 "WardrobeKeeperModel" "clash" "[Z", Cond.fieldLink RX1 17 "WardrobeKeeperModel" "colours" "[I", Cond.methodLink RX1 89 yX1_warmthOf, Cond.instanceMethod yX1_warmthOf, Cond.selects RX1 yX1_warmthOf yX1_warmthOf, Cond.code yX1_warmthOf cX1_warmthOf 4 (some .int), Cond.fieldLink RX1 20 "WardrobeKeeperModel" "warmths" "[I"]
def wsX1_count : List Cond := .code yX1_count cX1_count 9 (some .int) :: ((wsX1_count_r1 ++ wsX1_count_r2) ++ wsX10)
def wsX1_outfits_r1 : List Cond := [Cond.methodLink RX1 48 yX1_isIn, Cond.static yX1_isIn, Cond.initialized RX1, Cond.code yX1_isIn cX1_isIn 3 (some .boolean), Cond.methodLink RX1 59 yX1_goes, Cond.instanceMethod yX1_goes, Cond.selects RX1 yX1_goes yX1_goes, Cond.code yX1_goes cX1_goes 2 (some .boolean), Cond.fieldLink RX1 41 "WardrobeKeeperModel" "thrown" "I", Cond.methodLink RX1 92 yX1_count, Cond.instanceMethod yX1_count, Cond.selects RX1 yX1_count yX1_count, Cond.code yX1_count cX1_count 9 (some .int), Cond.methodLink RX1 76 yX1_wrong, Cond.instanceMethod yX1_wrong, Cond.selects RX1 yX1_wrong yX1_wrong, Cond.code yX1_wrong cX1_wrong 5 (some .int), Cond.fieldLink RX1 13 "WardrobeKeeperModel" "kinds" "[I", Cond.methodLink RX1 62 yX1_isThing, Cond.instanceMethod yX1_isThing, Cond.selects RX1 yX1_isThing yX1_isThing, Cond.code yX1_isThing cX1_isThing 2 (some .boolean), Cond.fieldLink RX1 45 "WardrobeKeeperModel" "added" "I", Cond.fieldLink RX1 7 "WardrobeKeeperModel" "isGone" "[Z"]
def wsX1_outfits_r2 : List Cond := [Cond.methodLink RX1 80 yX1_fits, Cond.instanceMethod yX1_fits, Cond.selects RX1 yX1_fits yX1_fits, Cond.code yX1_fits cX1_fits 5 (some .boolean), Cond.fieldLink RX1 29 "WardrobeKeeperModel" "lefts" "[I", Cond.methodLink RX1 69 yX1_doClash, Cond.instanceMethod yX1_doClash, Cond.selects RX1 yX1_doClash yX1_doClash, Cond.code yX1_doClash cX1_doClash 3 (some .boolean), Cond.fieldLink RX1 32 "WardrobeKeeperModel" "clash" "[Z", Cond.fieldLink RX1 17 "WardrobeKeeperModel" "colours" "[I", Cond.methodLink RX1 89 yX1_warmthOf, Cond.instanceMethod yX1_warmthOf, Cond.selects RX1 yX1_warmthOf yX1_warmthOf, Cond.code yX1_warmthOf cX1_warmthOf 4 (some .int), Cond.fieldLink RX1 20 "WardrobeKeeperModel" "warmths" "[I"]
def wsX1_outfits : List Cond := .code yX1_outfits cX1_outfits 2 (some .int) :: ((wsX1_outfits_r1 ++ wsX1_outfits_r2) ++ wsX10)
def wsX1_adds_r1 : List Cond := [Cond.methodLink RX1 62 yX1_isThing, Cond.instanceMethod yX1_isThing, Cond.selects RX1 yX1_isThing yX1_isThing, Cond.initialized RX1, Cond.code yX1_isThing cX1_isThing 2 (some .boolean), Cond.fieldLink RX1 45 "WardrobeKeeperModel" "added" "I", Cond.fieldLink RX1 7 "WardrobeKeeperModel" "isGone" "[Z", Cond.methodLink RX1 48 yX1_isIn, Cond.static yX1_isIn, Cond.code yX1_isIn cX1_isIn 3 (some .boolean), Cond.methodLink RX1 59 yX1_goes, Cond.instanceMethod yX1_goes, Cond.selects RX1 yX1_goes yX1_goes, Cond.code yX1_goes cX1_goes 2 (some .boolean), Cond.fieldLink RX1 41 "WardrobeKeeperModel" "thrown" "I", Cond.methodLink RX1 92 yX1_count, Cond.instanceMethod yX1_count, Cond.selects RX1 yX1_count yX1_count, Cond.code yX1_count cX1_count 9 (some .int), Cond.methodLink RX1 76 yX1_wrong, Cond.instanceMethod yX1_wrong, Cond.selects RX1 yX1_wrong yX1_wrong, Cond.code yX1_wrong cX1_wrong 5 (some .int), Cond.fieldLink RX1 13 "WardrobeKeeperModel" "kinds" "[I"]
def wsX1_adds_r2 : List Cond := [Cond.methodLink RX1 80 yX1_fits, Cond.instanceMethod yX1_fits, Cond.selects RX1 yX1_fits yX1_fits, Cond.code yX1_fits cX1_fits 5 (some .boolean), Cond.fieldLink RX1 29 "WardrobeKeeperModel" "lefts" "[I", Cond.methodLink RX1 69 yX1_doClash, Cond.instanceMethod yX1_doClash, Cond.selects RX1 yX1_doClash yX1_doClash, Cond.code yX1_doClash cX1_doClash 3 (some .boolean), Cond.fieldLink RX1 32 "WardrobeKeeperModel" "clash" "[Z", Cond.fieldLink RX1 17 "WardrobeKeeperModel" "colours" "[I", Cond.methodLink RX1 89 yX1_warmthOf, Cond.instanceMethod yX1_warmthOf, Cond.selects RX1 yX1_warmthOf yX1_warmthOf, Cond.code yX1_warmthOf cX1_warmthOf 4 (some .int), Cond.fieldLink RX1 20 "WardrobeKeeperModel" "warmths" "[I"]
def wsX1_adds : List Cond := .code yX1_adds cX1_adds 3 (some .int) :: ((wsX1_adds_r1 ++ wsX1_adds_r2) ++ wsX10)
def wsX1_missingTop : List Cond := .code yX1_missingTop cX1_missingTop 7 (some .int) :: ([.fieldLink RX1 41 "WardrobeKeeperModel" "thrown" "I", .fieldLink RX1 45 "WardrobeKeeperModel" "added" "I", .fieldLink RX1 7 "WardrobeKeeperModel" "isGone" "[Z", .fieldLink RX1 13 "WardrobeKeeperModel" "kinds" "[I", .fieldLink RX1 29 "WardrobeKeeperModel" "lefts" "[I", .fieldLink RX1 32 "WardrobeKeeperModel" "clash" "[Z", .fieldLink RX1 17 "WardrobeKeeperModel" "colours" "[I"] ++ wsX10)
def wsX1_outfitFor_r1 : List Cond := [Cond.methodLink RX1 48 yX1_isIn, Cond.static yX1_isIn, Cond.initialized RX1, Cond.code yX1_isIn cX1_isIn 3 (some .boolean), Cond.methodLink RX1 83 yX1_arePeople, Cond.static yX1_arePeople, Cond.code yX1_arePeople cX1_arePeople 1 (some .boolean), Cond.methodLink RX1 59 yX1_goes, Cond.instanceMethod yX1_goes, Cond.selects RX1 yX1_goes yX1_goes, Cond.code yX1_goes cX1_goes 2 (some .boolean), Cond.fieldLink RX1 41 "WardrobeKeeperModel" "thrown" "I", Cond.methodLink RX1 76 yX1_wrong, Cond.instanceMethod yX1_wrong, Cond.selects RX1 yX1_wrong yX1_wrong, Cond.code yX1_wrong cX1_wrong 5 (some .int), Cond.fieldLink RX1 13 "WardrobeKeeperModel" "kinds" "[I", Cond.methodLink RX1 62 yX1_isThing, Cond.instanceMethod yX1_isThing, Cond.selects RX1 yX1_isThing yX1_isThing, Cond.code yX1_isThing cX1_isThing 2 (some .boolean), Cond.fieldLink RX1 45 "WardrobeKeeperModel" "added" "I", Cond.fieldLink RX1 7 "WardrobeKeeperModel" "isGone" "[Z", Cond.methodLink RX1 80 yX1_fits]
def wsX1_outfitFor_r2 : List Cond := [Cond.instanceMethod yX1_fits, Cond.selects RX1 yX1_fits yX1_fits, Cond.code yX1_fits cX1_fits 5 (some .boolean), Cond.fieldLink RX1 29 "WardrobeKeeperModel" "lefts" "[I", Cond.methodLink RX1 69 yX1_doClash, Cond.instanceMethod yX1_doClash, Cond.selects RX1 yX1_doClash yX1_doClash, Cond.code yX1_doClash cX1_doClash 3 (some .boolean), Cond.fieldLink RX1 32 "WardrobeKeeperModel" "clash" "[Z", Cond.fieldLink RX1 17 "WardrobeKeeperModel" "colours" "[I", Cond.methodLink RX1 86 yX1_isSoon, Cond.instanceMethod yX1_isSoon, Cond.selects RX1 yX1_isSoon yX1_isSoon, Cond.code yX1_isSoon cX1_isSoon 7 (some .boolean), Cond.fieldLink RX1 35 "WardrobeKeeperModel" "seen" "[I", Cond.fieldLink RX1 73 "WardrobeKeeperModel" "today" "I", Cond.methodLink RX1 89 yX1_warmthOf, Cond.instanceMethod yX1_warmthOf, Cond.selects RX1 yX1_warmthOf yX1_warmthOf, Cond.code yX1_warmthOf cX1_warmthOf 4 (some .int), Cond.fieldLink RX1 20 "WardrobeKeeperModel" "warmths" "[I"]
def wsX1_outfitFor : List Cond := .code yX1_outfitFor cX1_outfitFor 11 (some .int) :: ((wsX1_outfitFor_r1 ++ wsX1_outfitFor_r2) ++ wsX10)
def wsX1_isOf : List Cond := .code yX1_isOf cX1_isOf 4 (some .boolean) :: ([.fieldLink RX1 7 "WardrobeKeeperModel" "isGone" "[Z", .fieldLink RX1 26 "WardrobeKeeperModel" "cares" "[I", .fieldLink RX1 17 "WardrobeKeeperModel" "colours" "[I"] ++ wsX10)
def wsX1_load : List Cond := .code yX1_load cX1_load 5 (some .int) :: ([.fieldLink RX1 45 "WardrobeKeeperModel" "added" "I", .fieldLink RX1 29 "WardrobeKeeperModel" "lefts" "[I", .methodLink RX1 56 yX1_isCare, .static yX1_isCare, .initialized RX1, .code yX1_isCare cX1_isCare 1 (some .boolean), .methodLink RX1 48 yX1_isIn, .static yX1_isIn, .code yX1_isIn cX1_isIn 3 (some .boolean), .methodLink RX1 59 yX1_goes, .instanceMethod yX1_goes, .selects RX1 yX1_goes yX1_goes, .code yX1_goes cX1_goes 2 (some .boolean), .fieldLink RX1 41 "WardrobeKeeperModel" "thrown" "I", .methodLink RX1 96 yX1_isOf, .instanceMethod yX1_isOf, .selects RX1 yX1_isOf yX1_isOf, .code yX1_isOf cX1_isOf 4 (some .boolean), .fieldLink RX1 7 "WardrobeKeeperModel" "isGone" "[Z", .fieldLink RX1 26 "WardrobeKeeperModel" "cares" "[I", .fieldLink RX1 17 "WardrobeKeeperModel" "colours" "[I"] ++ wsX10)
def wsX1_wash : List Cond := .code yX1_wash cX1_wash 7 (some .int) :: ([.fieldLink RX1 45 "WardrobeKeeperModel" "added" "I", .fieldLink RX1 29 "WardrobeKeeperModel" "lefts" "[I", .fieldLink RX1 23 "WardrobeKeeperModel" "wears" "[I", .methodLink RX1 56 yX1_isCare, .static yX1_isCare, .initialized RX1, .code yX1_isCare cX1_isCare 1 (some .boolean), .methodLink RX1 48 yX1_isIn, .static yX1_isIn, .code yX1_isIn cX1_isIn 3 (some .boolean), .methodLink RX1 59 yX1_goes, .instanceMethod yX1_goes, .selects RX1 yX1_goes yX1_goes, .code yX1_goes cX1_goes 2 (some .boolean), .fieldLink RX1 41 "WardrobeKeeperModel" "thrown" "I", .methodLink RX1 96 yX1_isOf, .instanceMethod yX1_isOf, .selects RX1 yX1_isOf yX1_isOf, .code yX1_isOf cX1_isOf 4 (some .boolean), .fieldLink RX1 7 "WardrobeKeeperModel" "isGone" "[Z", .fieldLink RX1 26 "WardrobeKeeperModel" "cares" "[I", .fieldLink RX1 17 "WardrobeKeeperModel" "colours" "[I"] ++ wsX10)
def wsX1_pass : List Cond := .code yX1_pass cX1_pass 2 (some .int) :: ([.fieldLink RX1 73 "WardrobeKeeperModel" "today" "I", .methodLink RX1 48 yX1_isIn, .static yX1_isIn, .initialized RX1, .code yX1_isIn cX1_isIn 3 (some .boolean), .methodLink RX1 59 yX1_goes, .instanceMethod yX1_goes, .selects RX1 yX1_goes yX1_goes, .code yX1_goes cX1_goes 2 (some .boolean), .fieldLink RX1 41 "WardrobeKeeperModel" "thrown" "I"] ++ wsX10)
def wsX1_laysPairs : List Cond := .code yX1_laysPairs cX1_laysPairs 5 none :: ([.fieldLink RX1 38 "WardrobeKeeperModel" "goesWith" "[I", .fieldLink RX1 20 "WardrobeKeeperModel" "warmths" "[I", .methodLink RX1 76 yX1_wrong, .instanceMethod yX1_wrong, .selects RX1 yX1_wrong yX1_wrong, .initialized RX1, .code yX1_wrong cX1_wrong 5 (some .int), .fieldLink RX1 13 "WardrobeKeeperModel" "kinds" "[I", .methodLink RX1 62 yX1_isThing, .instanceMethod yX1_isThing, .selects RX1 yX1_isThing yX1_isThing, .code yX1_isThing cX1_isThing 2 (some .boolean), .fieldLink RX1 45 "WardrobeKeeperModel" "added" "I", .fieldLink RX1 7 "WardrobeKeeperModel" "isGone" "[Z", .methodLink RX1 48 yX1_isIn, .static yX1_isIn, .code yX1_isIn cX1_isIn 3 (some .boolean), .methodLink RX1 69 yX1_doClash, .instanceMethod yX1_doClash, .selects RX1 yX1_doClash yX1_doClash, .code yX1_doClash cX1_doClash 3 (some .boolean), .fieldLink RX1 32 "WardrobeKeeperModel" "clash" "[Z", .fieldLink RX1 17 "WardrobeKeeperModel" "colours" "[I"] ++ wsX10)
def wsX1_setOf : List Cond := .code yX1_setOf cX1_setOf 4 (some .int) :: ([.fieldLink RX1 45 "WardrobeKeeperModel" "added" "I", .fieldLink RX1 7 "WardrobeKeeperModel" "isGone" "[Z", .fieldLink RX1 13 "WardrobeKeeperModel" "kinds" "[I"] ++ wsX10)
def wsX1_worn : List Cond := .code yX1_worn cX1_worn 4 (some .int) :: ([.fieldLink RX1 45 "WardrobeKeeperModel" "added" "I", .fieldLink RX1 29 "WardrobeKeeperModel" "lefts" "[I"] ++ wsX10)
def wsX1_daysOf : List Cond := .code yX1_daysOf cX1_daysOf 10 (some .int) :: ([.fieldLink RX1 45 "WardrobeKeeperModel" "added" "I", .fieldLink RX1 38 "WardrobeKeeperModel" "goesWith" "[I", .methodLink RX1 100 yX1_worn, .instanceMethod yX1_worn, .selects RX1 yX1_worn yX1_worn, .initialized RX1, .code yX1_worn cX1_worn 4 (some .int), .fieldLink RX1 29 "WardrobeKeeperModel" "lefts" "[I"] ++ wsX10)
def wsX1_isEnough_r1 : List Cond := [Cond.methodLink RX1 104 yX1_setOf, Cond.instanceMethod yX1_setOf, Cond.selects RX1 yX1_setOf yX1_setOf, Cond.initialized RX1, Cond.code yX1_setOf cX1_setOf 4 (some .int), Cond.fieldLink RX1 45 "WardrobeKeeperModel" "added" "I", Cond.fieldLink RX1 7 "WardrobeKeeperModel" "isGone" "[Z", Cond.fieldLink RX1 13 "WardrobeKeeperModel" "kinds" "[I", Cond.methodLink RX1 48 yX1_isIn, Cond.static yX1_isIn, Cond.code yX1_isIn cX1_isIn 3 (some .boolean), Cond.methodLink RX1 59 yX1_goes, Cond.instanceMethod yX1_goes, Cond.selects RX1 yX1_goes yX1_goes, Cond.code yX1_goes cX1_goes 2 (some .boolean), Cond.fieldLink RX1 41 "WardrobeKeeperModel" "thrown" "I", Cond.methodLink RX1 107 yX1_laysPairs, Cond.instanceMethod yX1_laysPairs, Cond.selects RX1 yX1_laysPairs yX1_laysPairs, Cond.code yX1_laysPairs cX1_laysPairs 5 none, Cond.fieldLink RX1 38 "WardrobeKeeperModel" "goesWith" "[I", Cond.fieldLink RX1 20 "WardrobeKeeperModel" "warmths" "[I", Cond.methodLink RX1 76 yX1_wrong, Cond.instanceMethod yX1_wrong]
def wsX1_isEnough_r2 : List Cond := [Cond.selects RX1 yX1_wrong yX1_wrong, Cond.code yX1_wrong cX1_wrong 5 (some .int), Cond.methodLink RX1 62 yX1_isThing, Cond.instanceMethod yX1_isThing, Cond.selects RX1 yX1_isThing yX1_isThing, Cond.code yX1_isThing cX1_isThing 2 (some .boolean), Cond.methodLink RX1 69 yX1_doClash, Cond.instanceMethod yX1_doClash, Cond.selects RX1 yX1_doClash yX1_doClash, Cond.code yX1_doClash cX1_doClash 3 (some .boolean), Cond.fieldLink RX1 32 "WardrobeKeeperModel" "clash" "[Z", Cond.fieldLink RX1 17 "WardrobeKeeperModel" "colours" "[I", Cond.methodLink RX1 111 yX1_daysOf, Cond.instanceMethod yX1_daysOf, Cond.selects RX1 yX1_daysOf yX1_daysOf, Cond.code yX1_daysOf cX1_daysOf 10 (some .int), Cond.methodLink RX1 100 yX1_worn, Cond.instanceMethod yX1_worn, Cond.selects RX1 yX1_worn yX1_worn, Cond.code yX1_worn cX1_worn 4 (some .int), Cond.fieldLink RX1 29 "WardrobeKeeperModel" "lefts" "[I"]
def wsX1_isEnough : List Cond := .code yX1_isEnough cX1_isEnough 5 (some .boolean) :: ((wsX1_isEnough_r1 ++ wsX1_isEnough_r2) ++ wsX10)
def wsX1_size : List Cond := .code yX1_size cX1_size 3 (some .int) :: ([])
def wsX1_bag_r1 : List Cond := [Cond.methodLink RX1 48 yX1_isIn, Cond.static yX1_isIn, Cond.initialized RX1, Cond.code yX1_isIn cX1_isIn 3 (some .boolean), Cond.methodLink RX1 59 yX1_goes, Cond.instanceMethod yX1_goes, Cond.selects RX1 yX1_goes yX1_goes, Cond.code yX1_goes cX1_goes 2 (some .boolean), Cond.fieldLink RX1 41 "WardrobeKeeperModel" "thrown" "I", Cond.methodLink RX1 107 yX1_laysPairs, Cond.instanceMethod yX1_laysPairs, Cond.selects RX1 yX1_laysPairs yX1_laysPairs, Cond.code yX1_laysPairs cX1_laysPairs 5 none, Cond.fieldLink RX1 38 "WardrobeKeeperModel" "goesWith" "[I", Cond.fieldLink RX1 20 "WardrobeKeeperModel" "warmths" "[I", Cond.methodLink RX1 76 yX1_wrong, Cond.instanceMethod yX1_wrong, Cond.selects RX1 yX1_wrong yX1_wrong, Cond.code yX1_wrong cX1_wrong 5 (some .int), Cond.fieldLink RX1 13 "WardrobeKeeperModel" "kinds" "[I", Cond.methodLink RX1 62 yX1_isThing, Cond.instanceMethod yX1_isThing, Cond.selects RX1 yX1_isThing yX1_isThing, Cond.code yX1_isThing cX1_isThing 2 (some .boolean)]
def wsX1_bag_r2 : List Cond := [Cond.fieldLink RX1 45 "WardrobeKeeperModel" "added" "I", Cond.fieldLink RX1 7 "WardrobeKeeperModel" "isGone" "[Z", Cond.methodLink RX1 69 yX1_doClash, Cond.instanceMethod yX1_doClash, Cond.selects RX1 yX1_doClash yX1_doClash, Cond.code yX1_doClash cX1_doClash 3 (some .boolean), Cond.fieldLink RX1 32 "WardrobeKeeperModel" "clash" "[Z", Cond.fieldLink RX1 17 "WardrobeKeeperModel" "colours" "[I", Cond.methodLink RX1 104 yX1_setOf, Cond.instanceMethod yX1_setOf, Cond.selects RX1 yX1_setOf yX1_setOf, Cond.code yX1_setOf cX1_setOf 4 (some .int), Cond.methodLink RX1 114 yX1_size, Cond.static yX1_size, Cond.code yX1_size cX1_size 3 (some .int), Cond.methodLink RX1 111 yX1_daysOf, Cond.instanceMethod yX1_daysOf, Cond.selects RX1 yX1_daysOf yX1_daysOf, Cond.code yX1_daysOf cX1_daysOf 10 (some .int), Cond.methodLink RX1 100 yX1_worn, Cond.instanceMethod yX1_worn, Cond.selects RX1 yX1_worn yX1_worn, Cond.code yX1_worn cX1_worn 4 (some .int), Cond.fieldLink RX1 29 "WardrobeKeeperModel" "lefts" "[I"]
def wsX1_bag : List Cond := .code yX1_bag cX1_bag 11 (some .int) :: ((wsX1_bag_r1 ++ wsX1_bag_r2) ++ wsX10)
def wsL_add_r1 : List Cond := [Cond.classLink RL 13 "java/lang/IllegalArgumentException", Cond.classLink RL 15 "java/lang/IllegalStateException", Cond.methodLink RL 7 yX0_add, Cond.instanceMethod yX0_add, Cond.selects RX0 yX0_add yX0_add, Cond.initialized RX0, Cond.code yX0_add cX0_add 7 (some .int), Cond.classLink RX0 45 "java/lang/IllegalArgumentException", Cond.initialized "java/lang/IllegalArgumentException", Cond.classLink RX0 56 "java/lang/IllegalStateException", Cond.initialized "java/lang/IllegalStateException", Cond.fieldLink RX0 52 "WardrobeKeeper" "added" "I", Cond.fieldLink RX0 9 "WardrobeKeeper" "kinds" "[I", Cond.fieldLink RX0 13 "WardrobeKeeper" "colours" "[I", Cond.fieldLink RX0 16 "WardrobeKeeper" "warmths" "[I", Cond.fieldLink RX0 19 "WardrobeKeeper" "wearsWhenClean" "[I", Cond.fieldLink RX0 22 "WardrobeKeeper" "cares" "[I", Cond.fieldLink RX0 25 "WardrobeKeeper" "wearsLeft" "[I", Cond.fieldLink RX0 61 "WardrobeKeeper" "owned" "I", Cond.methodLink RX0 34 yX0_isWithin, Cond.static yX0_isWithin, Cond.code yX0_isWithin cX0_isWithin 3 (some .boolean), Cond.methodLink RX0 38 yX0_isColour, Cond.static yX0_isColour]
def wsL_add_r2 : List Cond := [Cond.code yX0_isColour cX0_isColour 1 (some .boolean), Cond.methodLink RX0 42 yX0_isCare, Cond.static yX0_isCare, Cond.code yX0_isCare cX0_isCare 1 (some .boolean)]
def wsL_add : List Cond := .codeWith yL_add cL_add 8 (some .int) [(0, 16, 19, 13), (0, 16, 23, 15)] :: ((wsL_add_r1 ++ wsL_add_r2) ++ wsX00 ++ (vx_atS RX0 49 "java/lang/IllegalArgumentException" ["java/lang/RuntimeException", "java/lang/Exception"]).filter goodWord ++ (vx_atS RX0 60 "java/lang/IllegalStateException" ["java/lang/RuntimeException", "java/lang/Exception"]).filter goodWord)
def wsL_giveAway : List Cond := .codeWith yL_giveAway cL_giveAway 4 (some .int) [(0, 9, 12, 21)] :: ([.classLink RL 21 "java/lang/IndexOutOfBoundsException", .methodLink RL 17 yX0_giveAway, .instanceMethod yX0_giveAway, .selects RX0 yX0_giveAway yX0_giveAway, .initialized RX0, .code yX0_giveAway cX0_giveAway 2 (some .int), .classLink RX0 67 "java/lang/IndexOutOfBoundsException", .initialized "java/lang/IndexOutOfBoundsException", .fieldLink RX0 61 "WardrobeKeeper" "owned" "I", .methodLink RX0 64 yX0_isThing, .instanceMethod yX0_isThing, .selects RX0 yX0_isThing yX0_isThing, .code yX0_isThing cX0_isThing 2 (some .boolean), .methodLink RX0 72 yJ6_bitCount_0f7a4, .static yJ6_bitCount_0f7a4, .initialized RJ6, .code yJ6_bitCount_0f7a4 cJ6_bitCount_0f7a4 1 (some .int), .constant RJ6 265 (1431655765), .constant RJ6 266 (858993459), .constant RJ6 267 (252645135)] ++ wsX00 ++ (vx_atS RX0 71 "java/lang/IndexOutOfBoundsException" ["java/lang/RuntimeException", "java/lang/Exception"]).filter goodWord)
def wsL_setClash : List Cond := .codeWith yL_setClash cL_setClash 6 (some .int) [(0, 19, 22, 13)] :: ([.classLink RL 13 "java/lang/IllegalArgumentException", .methodLink RL 23 yX0_setClash, .instanceMethod yX0_setClash, .selects RX0 yX0_setClash yX0_setClash, .initialized RX0, .code yX0_setClash cX0_setClash 7 (some .boolean), .classLink RX0 45 "java/lang/IllegalArgumentException", .initialized "java/lang/IllegalArgumentException", .fieldLink RX0 88 "WardrobeKeeper" "clashes" "J", .constantLong RX0 92 (-1), .methodLink RX0 38 yX0_isColour, .static yX0_isColour, .code yX0_isColour cX0_isColour 1 (some .boolean), .methodLink RX0 34 yX0_isWithin, .static yX0_isWithin, .code yX0_isWithin cX0_isWithin 3 (some .boolean), .methodLink RX0 80 yX0_coloursClash, .instanceMethod yX0_coloursClash, .selects RX0 yX0_coloursClash yX0_coloursClash, .code yX0_coloursClash cX0_coloursClash 3 (some .boolean), .methodLink RX0 84 yX0_clashBit, .static yX0_clashBit, .code yX0_clashBit cX0_clashBit 2 (some .long)] ++ wsX00 ++ (vx_atS RX0 49 "java/lang/IllegalArgumentException" ["java/lang/RuntimeException", "java/lang/Exception"]).filter goodWord)
def wsL_left : List Cond := .codeWith yL_left cL_left 4 (some .int) [(0, 9, 12, 21)] :: ([.classLink RL 21 "java/lang/IndexOutOfBoundsException", .methodLink RL 27 yX0_left, .instanceMethod yX0_left, .selects RX0 yX0_left yX0_left, .initialized RX0, .code yX0_left cX0_left 2 (some .int), .classLink RX0 67 "java/lang/IndexOutOfBoundsException", .initialized "java/lang/IndexOutOfBoundsException", .fieldLink RX0 25 "WardrobeKeeper" "wearsLeft" "[I", .methodLink RX0 64 yX0_isThing, .instanceMethod yX0_isThing, .selects RX0 yX0_isThing yX0_isThing, .code yX0_isThing cX0_isThing 2 (some .boolean), .fieldLink RX0 61 "WardrobeKeeper" "owned" "I"] ++ wsX00 ++ (vx_atS RX0 71 "java/lang/IndexOutOfBoundsException" ["java/lang/RuntimeException", "java/lang/Exception"]).filter goodWord)
def wsL_isPossible_r1 : List Cond := [Cond.classLink RL 21 "java/lang/IndexOutOfBoundsException", Cond.classLink RL 13 "java/lang/IllegalArgumentException", Cond.methodLink RL 30 yX0_isPossible, Cond.instanceMethod yX0_isPossible, Cond.selects RX0 yX0_isPossible yX0_isPossible, Cond.initialized RX0, Cond.code yX0_isPossible cX0_isPossible 4 (some .boolean), Cond.classLink RX0 67 "java/lang/IndexOutOfBoundsException", Cond.initialized "java/lang/IndexOutOfBoundsException", Cond.classLink RX0 45 "java/lang/IllegalArgumentException", Cond.initialized "java/lang/IllegalArgumentException", Cond.methodLink RX0 94 yX0_areThings, Cond.instanceMethod yX0_areThings, Cond.selects RX0 yX0_areThings yX0_areThings, Cond.code yX0_areThings cX0_areThings 4 (some .boolean), Cond.methodLink RX0 64 yX0_isThing, Cond.instanceMethod yX0_isThing, Cond.selects RX0 yX0_isThing yX0_isThing, Cond.code yX0_isThing cX0_isThing 2 (some .boolean), Cond.fieldLink RX0 61 "WardrobeKeeper" "owned" "I", Cond.methodLink RX0 97 yX0_areOfTheirKinds, Cond.instanceMethod yX0_areOfTheirKinds, Cond.selects RX0 yX0_areOfTheirKinds yX0_areOfTheirKinds, Cond.code yX0_areOfTheirKinds cX0_areOfTheirKinds 4 (some .boolean)]
def wsL_isPossible_r2 : List Cond := [Cond.methodLink RX0 191 yX0_isOfKind, Cond.instanceMethod yX0_isOfKind, Cond.selects RX0 yX0_isOfKind yX0_isOfKind, Cond.code yX0_isOfKind cX0_isOfKind 3 (some .boolean), Cond.fieldLink RX0 9 "WardrobeKeeper" "kinds" "[I", Cond.methodLink RX0 102 yX0_canBeWorn, Cond.instanceMethod yX0_canBeWorn, Cond.selects RX0 yX0_canBeWorn yX0_canBeWorn, Cond.code yX0_canBeWorn cX0_canBeWorn 4 (some .boolean), Cond.methodLink RX0 194 yX0_isCleanOfKind, Cond.instanceMethod yX0_isCleanOfKind, Cond.selects RX0 yX0_isCleanOfKind yX0_isCleanOfKind, Cond.code yX0_isCleanOfKind cX0_isCleanOfKind 3 (some .boolean), Cond.fieldLink RX0 25 "WardrobeKeeper" "wearsLeft" "[I", Cond.methodLink RX0 197 yX0_doClash, Cond.instanceMethod yX0_doClash, Cond.selects RX0 yX0_doClash yX0_doClash, Cond.code yX0_doClash cX0_doClash 3 (some .boolean), Cond.fieldLink RX0 13 "WardrobeKeeper" "colours" "[I", Cond.methodLink RX0 80 yX0_coloursClash, Cond.instanceMethod yX0_coloursClash, Cond.selects RX0 yX0_coloursClash yX0_coloursClash, Cond.code yX0_coloursClash cX0_coloursClash 3 (some .boolean), Cond.fieldLink RX0 88 "WardrobeKeeper" "clashes" "J"]
def wsL_isPossible_r3 : List Cond := [Cond.methodLink RX0 84 yX0_clashBit, Cond.static yX0_clashBit, Cond.code yX0_clashBit cX0_clashBit 2 (some .long), Cond.methodLink RX0 200 yX0_fitsOver, Cond.instanceMethod yX0_fitsOver, Cond.selects RX0 yX0_fitsOver yX0_fitsOver, Cond.code yX0_fitsOver cX0_fitsOver 4 (some .boolean)]
def wsL_isPossible : List Cond := .codeWith yL_isPossible cL_isPossible 6 (some .int) [(0, 19, 22, 21), (0, 19, 26, 13)] :: ((wsL_isPossible_r1 ++ (wsL_isPossible_r2 ++ wsL_isPossible_r3)) ++ wsX00 ++ (vx_atS RX0 71 "java/lang/IndexOutOfBoundsException" ["java/lang/RuntimeException", "java/lang/Exception"]).filter goodWord ++ (vx_atS RX0 49 "java/lang/IllegalArgumentException" ["java/lang/RuntimeException", "java/lang/Exception"]).filter goodWord)
def wsL_isTooSoon_r1 : List Cond := [Cond.classLink RL 21 "java/lang/IndexOutOfBoundsException", Cond.classLink RL 13 "java/lang/IllegalArgumentException", Cond.methodLink RL 34 yX0_isTooSoon, Cond.instanceMethod yX0_isTooSoon, Cond.selects RX0 yX0_isTooSoon yX0_isTooSoon, Cond.initialized RX0, Cond.code yX0_isTooSoon cX0_isTooSoon 4 (some .boolean), Cond.classLink RX0 67 "java/lang/IndexOutOfBoundsException", Cond.initialized "java/lang/IndexOutOfBoundsException", Cond.classLink RX0 45 "java/lang/IllegalArgumentException", Cond.initialized "java/lang/IllegalArgumentException", Cond.methodLink RX0 94 yX0_areThings, Cond.instanceMethod yX0_areThings, Cond.selects RX0 yX0_areThings yX0_areThings, Cond.code yX0_areThings cX0_areThings 4 (some .boolean), Cond.methodLink RX0 64 yX0_isThing, Cond.instanceMethod yX0_isThing, Cond.selects RX0 yX0_isThing yX0_isThing, Cond.code yX0_isThing cX0_isThing 2 (some .boolean), Cond.fieldLink RX0 61 "WardrobeKeeper" "owned" "I", Cond.methodLink RX0 97 yX0_areOfTheirKinds, Cond.instanceMethod yX0_areOfTheirKinds, Cond.selects RX0 yX0_areOfTheirKinds yX0_areOfTheirKinds, Cond.code yX0_areOfTheirKinds cX0_areOfTheirKinds 4 (some .boolean)]
def wsL_isTooSoon_r2 : List Cond := [Cond.methodLink RX0 191 yX0_isOfKind, Cond.instanceMethod yX0_isOfKind, Cond.selects RX0 yX0_isOfKind yX0_isOfKind, Cond.code yX0_isOfKind cX0_isOfKind 3 (some .boolean), Cond.fieldLink RX0 9 "WardrobeKeeper" "kinds" "[I", Cond.methodLink RX0 105 yX0_arePeople, Cond.static yX0_arePeople, Cond.code yX0_arePeople cX0_arePeople 1 (some .boolean), Cond.methodLink RX0 34 yX0_isWithin, Cond.static yX0_isWithin, Cond.code yX0_isWithin cX0_isWithin 3 (some .boolean), Cond.methodLink RX0 110 yX0_wasSeenLately, Cond.instanceMethod yX0_wasSeenLately, Cond.selects RX0 yX0_wasSeenLately yX0_wasSeenLately, Cond.code yX0_wasSeenLately cX0_wasSeenLately 6 (some .boolean), Cond.fieldLink RX0 162 "WardrobeKeeper" "today" "I", Cond.fieldLink RX0 28 "WardrobeKeeper" "freeFrom" "[I", Cond.methodLink RX0 206 yX0_firstSeat, Cond.static yX0_firstSeat, Cond.code yX0_firstSeat cX0_firstSeat 2 (some .int)]
def wsL_isTooSoon : List Cond := .codeWith yL_isTooSoon cL_isTooSoon 6 (some .int) [(0, 19, 22, 21), (0, 19, 26, 13)] :: ((wsL_isTooSoon_r1 ++ wsL_isTooSoon_r2) ++ wsX00 ++ (vx_atS RX0 71 "java/lang/IndexOutOfBoundsException" ["java/lang/RuntimeException", "java/lang/Exception"]).filter goodWord ++ (vx_atS RX0 49 "java/lang/IllegalArgumentException" ["java/lang/RuntimeException", "java/lang/Exception"]).filter goodWord)
def wsL_wear_r1 : List Cond := [Cond.classLink RL 21 "java/lang/IndexOutOfBoundsException", Cond.classLink RL 13 "java/lang/IllegalArgumentException", Cond.classLink RL 15 "java/lang/IllegalStateException", Cond.methodLink RL 37 yX0_wear, Cond.instanceMethod yX0_wear, Cond.selects RX0 yX0_wear yX0_wear, Cond.initialized RX0, Cond.code yX0_wear cX0_wear 5 (some .int), Cond.classLink RX0 67 "java/lang/IndexOutOfBoundsException", Cond.initialized "java/lang/IndexOutOfBoundsException", Cond.classLink RX0 45 "java/lang/IllegalArgumentException", Cond.initialized "java/lang/IllegalArgumentException", Cond.classLink RX0 56 "java/lang/IllegalStateException", Cond.initialized "java/lang/IllegalStateException", Cond.methodLink RX0 94 yX0_areThings, Cond.instanceMethod yX0_areThings, Cond.selects RX0 yX0_areThings yX0_areThings, Cond.code yX0_areThings cX0_areThings 4 (some .boolean), Cond.methodLink RX0 64 yX0_isThing, Cond.instanceMethod yX0_isThing, Cond.selects RX0 yX0_isThing yX0_isThing, Cond.code yX0_isThing cX0_isThing 2 (some .boolean), Cond.fieldLink RX0 61 "WardrobeKeeper" "owned" "I", Cond.methodLink RX0 97 yX0_areOfTheirKinds]
def wsL_wear_r2 : List Cond := [Cond.instanceMethod yX0_areOfTheirKinds, Cond.selects RX0 yX0_areOfTheirKinds yX0_areOfTheirKinds, Cond.code yX0_areOfTheirKinds cX0_areOfTheirKinds 4 (some .boolean), Cond.methodLink RX0 191 yX0_isOfKind, Cond.instanceMethod yX0_isOfKind, Cond.selects RX0 yX0_isOfKind yX0_isOfKind, Cond.code yX0_isOfKind cX0_isOfKind 3 (some .boolean), Cond.fieldLink RX0 9 "WardrobeKeeper" "kinds" "[I", Cond.methodLink RX0 105 yX0_arePeople, Cond.static yX0_arePeople, Cond.code yX0_arePeople cX0_arePeople 1 (some .boolean), Cond.methodLink RX0 34 yX0_isWithin, Cond.static yX0_isWithin, Cond.code yX0_isWithin cX0_isWithin 3 (some .boolean), Cond.methodLink RX0 102 yX0_canBeWorn, Cond.instanceMethod yX0_canBeWorn, Cond.selects RX0 yX0_canBeWorn yX0_canBeWorn, Cond.code yX0_canBeWorn cX0_canBeWorn 4 (some .boolean), Cond.methodLink RX0 194 yX0_isCleanOfKind, Cond.instanceMethod yX0_isCleanOfKind, Cond.selects RX0 yX0_isCleanOfKind yX0_isCleanOfKind, Cond.code yX0_isCleanOfKind cX0_isCleanOfKind 3 (some .boolean), Cond.fieldLink RX0 25 "WardrobeKeeper" "wearsLeft" "[I", Cond.methodLink RX0 197 yX0_doClash]
def wsL_wear_r3 : List Cond := [Cond.instanceMethod yX0_doClash, Cond.selects RX0 yX0_doClash yX0_doClash, Cond.code yX0_doClash cX0_doClash 3 (some .boolean), Cond.fieldLink RX0 13 "WardrobeKeeper" "colours" "[I", Cond.methodLink RX0 80 yX0_coloursClash, Cond.instanceMethod yX0_coloursClash, Cond.selects RX0 yX0_coloursClash yX0_coloursClash, Cond.code yX0_coloursClash cX0_coloursClash 3 (some .boolean), Cond.fieldLink RX0 88 "WardrobeKeeper" "clashes" "J", Cond.methodLink RX0 84 yX0_clashBit, Cond.static yX0_clashBit, Cond.code yX0_clashBit cX0_clashBit 2 (some .long), Cond.methodLink RX0 200 yX0_fitsOver, Cond.instanceMethod yX0_fitsOver, Cond.selects RX0 yX0_fitsOver yX0_fitsOver, Cond.code yX0_fitsOver cX0_fitsOver 4 (some .boolean), Cond.methodLink RX0 110 yX0_wasSeenLately, Cond.instanceMethod yX0_wasSeenLately, Cond.selects RX0 yX0_wasSeenLately yX0_wasSeenLately, Cond.code yX0_wasSeenLately cX0_wasSeenLately 6 (some .boolean), Cond.fieldLink RX0 162 "WardrobeKeeper" "today" "I", Cond.fieldLink RX0 28 "WardrobeKeeper" "freeFrom" "[I", Cond.methodLink RX0 206 yX0_firstSeat, Cond.static yX0_firstSeat]
def wsL_wear_r4 : List Cond := [Cond.code yX0_firstSeat cX0_firstSeat 2 (some .int), Cond.methodLink RX0 115 yX0_wearOnce, Cond.instanceMethod yX0_wearOnce, Cond.selects RX0 yX0_wearOnce yX0_wearOnce, Cond.code yX0_wearOnce cX0_wearOnce 2 none, Cond.methodLink RX0 150 yX0_wearsLeftOf, Cond.instanceMethod yX0_wearsLeftOf, Cond.selects RX0 yX0_wearsLeftOf yX0_wearsLeftOf, Cond.code yX0_wearsLeftOf cX0_wearsLeftOf 2 (some .int), Cond.methodLink RX0 119 yX0_showTo, Cond.instanceMethod yX0_showTo, Cond.selects RX0 yX0_showTo yX0_showTo, Cond.code yX0_showTo cX0_showTo 6 none, Cond.methodLink RX0 123 yX0_outfitWarmth, Cond.instanceMethod yX0_outfitWarmth, Cond.selects RX0 yX0_outfitWarmth yX0_outfitWarmth, Cond.code yX0_outfitWarmth cX0_outfitWarmth 4 (some .int), Cond.methodLink RX0 203 yX0_warmthOf, Cond.instanceMethod yX0_warmthOf, Cond.selects RX0 yX0_warmthOf yX0_warmthOf, Cond.code yX0_warmthOf cX0_warmthOf 2 (some .int), Cond.fieldLink RX0 16 "WardrobeKeeper" "warmths" "[I"]
def wsL_wear : List Cond := .codeWith yL_wear cL_wear 7 (some .int) [(0, 14, 17, 21), (0, 14, 21, 13), (0, 14, 25, 15)] :: ((wsL_wear_r1 ++ (wsL_wear_r2 ++ (wsL_wear_r3 ++ wsL_wear_r4))) ++ wsX00 ++ (vx_atS RX0 71 "java/lang/IndexOutOfBoundsException" ["java/lang/RuntimeException", "java/lang/Exception"]).filter goodWord ++ (vx_atS RX0 49 "java/lang/IllegalArgumentException" ["java/lang/RuntimeException", "java/lang/Exception"]).filter goodWord ++ (vx_atS RX0 60 "java/lang/IllegalStateException" ["java/lang/RuntimeException", "java/lang/Exception"]).filter goodWord)
def wsL_outfits_r1 : List Cond := [Cond.classLink RL 13 "java/lang/IllegalArgumentException", Cond.methodLink RL 41 yX0_outfits, Cond.instanceMethod yX0_outfits, Cond.selects RX0 yX0_outfits yX0_outfits, Cond.initialized RX0, Cond.code yX0_outfits cX0_outfits 5 (some .int), Cond.classLink RX0 45 "java/lang/IllegalArgumentException", Cond.initialized "java/lang/IllegalArgumentException", Cond.fieldLink RX0 52 "WardrobeKeeper" "added" "I", Cond.methodLink RX0 127 yX0_isOutfitWarmth, Cond.static yX0_isOutfitWarmth, Cond.code yX0_isOutfitWarmth cX0_isOutfitWarmth 1 (some .boolean), Cond.methodLink RX0 34 yX0_isWithin, Cond.static yX0_isWithin, Cond.code yX0_isWithin cX0_isWithin 3 (some .boolean), Cond.methodLink RX0 132 yX0_countOutfitsOf, Cond.instanceMethod yX0_countOutfitsOf, Cond.selects RX0 yX0_countOutfitsOf yX0_countOutfitsOf, Cond.code yX0_countOutfitsOf cX0_countOutfitsOf 6 (some .int), Cond.methodLink RX0 102 yX0_canBeWorn, Cond.instanceMethod yX0_canBeWorn, Cond.selects RX0 yX0_canBeWorn yX0_canBeWorn, Cond.code yX0_canBeWorn cX0_canBeWorn 4 (some .boolean), Cond.methodLink RX0 194 yX0_isCleanOfKind]
def wsL_outfits_r2 : List Cond := [Cond.instanceMethod yX0_isCleanOfKind, Cond.selects RX0 yX0_isCleanOfKind yX0_isCleanOfKind, Cond.code yX0_isCleanOfKind cX0_isCleanOfKind 3 (some .boolean), Cond.fieldLink RX0 9 "WardrobeKeeper" "kinds" "[I", Cond.fieldLink RX0 25 "WardrobeKeeper" "wearsLeft" "[I", Cond.methodLink RX0 64 yX0_isThing, Cond.instanceMethod yX0_isThing, Cond.selects RX0 yX0_isThing yX0_isThing, Cond.code yX0_isThing cX0_isThing 2 (some .boolean), Cond.fieldLink RX0 61 "WardrobeKeeper" "owned" "I", Cond.methodLink RX0 197 yX0_doClash, Cond.instanceMethod yX0_doClash, Cond.selects RX0 yX0_doClash yX0_doClash, Cond.code yX0_doClash cX0_doClash 3 (some .boolean), Cond.fieldLink RX0 13 "WardrobeKeeper" "colours" "[I", Cond.methodLink RX0 80 yX0_coloursClash, Cond.instanceMethod yX0_coloursClash, Cond.selects RX0 yX0_coloursClash yX0_coloursClash, Cond.code yX0_coloursClash cX0_coloursClash 3 (some .boolean), Cond.fieldLink RX0 88 "WardrobeKeeper" "clashes" "J", Cond.methodLink RX0 84 yX0_clashBit, Cond.static yX0_clashBit, Cond.code yX0_clashBit cX0_clashBit 2 (some .long), Cond.methodLink RX0 200 yX0_fitsOver]
def wsL_outfits_r3 : List Cond := [Cond.instanceMethod yX0_fitsOver, Cond.selects RX0 yX0_fitsOver yX0_fitsOver, Cond.code yX0_fitsOver cX0_fitsOver 4 (some .boolean), Cond.methodLink RX0 135 yX0_isWarmOutfit, Cond.instanceMethod yX0_isWarmOutfit, Cond.selects RX0 yX0_isWarmOutfit yX0_isWarmOutfit, Cond.code yX0_isWarmOutfit cX0_isWarmOutfit 5 (some .boolean), Cond.methodLink RX0 123 yX0_outfitWarmth, Cond.instanceMethod yX0_outfitWarmth, Cond.selects RX0 yX0_outfitWarmth yX0_outfitWarmth, Cond.code yX0_outfitWarmth cX0_outfitWarmth 4 (some .int), Cond.methodLink RX0 203 yX0_warmthOf, Cond.instanceMethod yX0_warmthOf, Cond.selects RX0 yX0_warmthOf yX0_warmthOf, Cond.code yX0_warmthOf cX0_warmthOf 2 (some .int), Cond.fieldLink RX0 16 "WardrobeKeeper" "warmths" "[I"]
def wsL_outfits : List Cond := .codeWith yL_outfits cL_outfits 4 (some .int) [(0, 9, 12, 13)] :: ((wsL_outfits_r1 ++ (wsL_outfits_r2 ++ wsL_outfits_r3)) ++ wsX00 ++ (vx_atS RX0 49 "java/lang/IllegalArgumentException" ["java/lang/RuntimeException", "java/lang/Exception"]).filter goodWord)
def wsL_adds_r1 : List Cond := [Cond.classLink RL 21 "java/lang/IndexOutOfBoundsException", Cond.classLink RL 13 "java/lang/IllegalArgumentException", Cond.methodLink RL 44 yX0_adds, Cond.instanceMethod yX0_adds, Cond.selects RX0 yX0_adds yX0_adds, Cond.initialized RX0, Cond.code yX0_adds cX0_adds 6 (some .int), Cond.classLink RX0 67 "java/lang/IndexOutOfBoundsException", Cond.initialized "java/lang/IndexOutOfBoundsException", Cond.classLink RX0 45 "java/lang/IllegalArgumentException", Cond.initialized "java/lang/IllegalArgumentException", Cond.fieldLink RX0 52 "WardrobeKeeper" "added" "I", Cond.methodLink RX0 64 yX0_isThing, Cond.instanceMethod yX0_isThing, Cond.selects RX0 yX0_isThing yX0_isThing, Cond.code yX0_isThing cX0_isThing 2 (some .boolean), Cond.fieldLink RX0 61 "WardrobeKeeper" "owned" "I", Cond.methodLink RX0 127 yX0_isOutfitWarmth, Cond.static yX0_isOutfitWarmth, Cond.code yX0_isOutfitWarmth cX0_isOutfitWarmth 1 (some .boolean), Cond.methodLink RX0 34 yX0_isWithin, Cond.static yX0_isWithin, Cond.code yX0_isWithin cX0_isWithin 3 (some .boolean), Cond.methodLink RX0 132 yX0_countOutfitsOf]
def wsL_adds_r2 : List Cond := [Cond.instanceMethod yX0_countOutfitsOf, Cond.selects RX0 yX0_countOutfitsOf yX0_countOutfitsOf, Cond.code yX0_countOutfitsOf cX0_countOutfitsOf 6 (some .int), Cond.methodLink RX0 102 yX0_canBeWorn, Cond.instanceMethod yX0_canBeWorn, Cond.selects RX0 yX0_canBeWorn yX0_canBeWorn, Cond.code yX0_canBeWorn cX0_canBeWorn 4 (some .boolean), Cond.methodLink RX0 194 yX0_isCleanOfKind, Cond.instanceMethod yX0_isCleanOfKind, Cond.selects RX0 yX0_isCleanOfKind yX0_isCleanOfKind, Cond.code yX0_isCleanOfKind cX0_isCleanOfKind 3 (some .boolean), Cond.fieldLink RX0 9 "WardrobeKeeper" "kinds" "[I", Cond.fieldLink RX0 25 "WardrobeKeeper" "wearsLeft" "[I", Cond.methodLink RX0 197 yX0_doClash, Cond.instanceMethod yX0_doClash, Cond.selects RX0 yX0_doClash yX0_doClash, Cond.code yX0_doClash cX0_doClash 3 (some .boolean), Cond.fieldLink RX0 13 "WardrobeKeeper" "colours" "[I", Cond.methodLink RX0 80 yX0_coloursClash, Cond.instanceMethod yX0_coloursClash, Cond.selects RX0 yX0_coloursClash yX0_coloursClash, Cond.code yX0_coloursClash cX0_coloursClash 3 (some .boolean), Cond.fieldLink RX0 88 "WardrobeKeeper" "clashes" "J", Cond.methodLink RX0 84 yX0_clashBit]
def wsL_adds_r3 : List Cond := [Cond.static yX0_clashBit, Cond.code yX0_clashBit cX0_clashBit 2 (some .long), Cond.methodLink RX0 200 yX0_fitsOver, Cond.instanceMethod yX0_fitsOver, Cond.selects RX0 yX0_fitsOver yX0_fitsOver, Cond.code yX0_fitsOver cX0_fitsOver 4 (some .boolean), Cond.methodLink RX0 135 yX0_isWarmOutfit, Cond.instanceMethod yX0_isWarmOutfit, Cond.selects RX0 yX0_isWarmOutfit yX0_isWarmOutfit, Cond.code yX0_isWarmOutfit cX0_isWarmOutfit 5 (some .boolean), Cond.methodLink RX0 123 yX0_outfitWarmth, Cond.instanceMethod yX0_outfitWarmth, Cond.selects RX0 yX0_outfitWarmth yX0_outfitWarmth, Cond.code yX0_outfitWarmth cX0_outfitWarmth 4 (some .int), Cond.methodLink RX0 203 yX0_warmthOf, Cond.instanceMethod yX0_warmthOf, Cond.selects RX0 yX0_warmthOf yX0_warmthOf, Cond.code yX0_warmthOf cX0_warmthOf 2 (some .int), Cond.fieldLink RX0 16 "WardrobeKeeper" "warmths" "[I"]
def wsL_adds : List Cond := .codeWith yL_adds cL_adds 5 (some .int) [(0, 10, 13, 21), (0, 10, 17, 13)] :: ((wsL_adds_r1 ++ (wsL_adds_r2 ++ wsL_adds_r3)) ++ wsX00 ++ (vx_atS RX0 71 "java/lang/IndexOutOfBoundsException" ["java/lang/RuntimeException", "java/lang/Exception"]).filter goodWord ++ (vx_atS RX0 49 "java/lang/IllegalArgumentException" ["java/lang/RuntimeException", "java/lang/Exception"]).filter goodWord)
def wsL_outfitFor_r1 : List Cond := [Cond.classLink RL 13 "java/lang/IllegalArgumentException", Cond.methodLink RL 48 yX0_outfitFor, Cond.instanceMethod yX0_outfitFor, Cond.selects RX0 yX0_outfitFor yX0_outfitFor, Cond.initialized RX0, Cond.code yX0_outfitFor cX0_outfitFor 9 (some .int), Cond.classLink RX0 45 "java/lang/IllegalArgumentException", Cond.initialized "java/lang/IllegalArgumentException", Cond.fieldLink RX0 52 "WardrobeKeeper" "added" "I", Cond.methodLink RX0 127 yX0_isOutfitWarmth, Cond.static yX0_isOutfitWarmth, Cond.code yX0_isOutfitWarmth cX0_isOutfitWarmth 1 (some .boolean), Cond.methodLink RX0 34 yX0_isWithin, Cond.static yX0_isWithin, Cond.code yX0_isWithin cX0_isWithin 3 (some .boolean), Cond.methodLink RX0 105 yX0_arePeople, Cond.static yX0_arePeople, Cond.code yX0_arePeople cX0_arePeople 1 (some .boolean), Cond.methodLink RX0 102 yX0_canBeWorn, Cond.instanceMethod yX0_canBeWorn, Cond.selects RX0 yX0_canBeWorn yX0_canBeWorn, Cond.code yX0_canBeWorn cX0_canBeWorn 4 (some .boolean), Cond.methodLink RX0 194 yX0_isCleanOfKind, Cond.instanceMethod yX0_isCleanOfKind]
def wsL_outfitFor_r2 : List Cond := [Cond.selects RX0 yX0_isCleanOfKind yX0_isCleanOfKind, Cond.code yX0_isCleanOfKind cX0_isCleanOfKind 3 (some .boolean), Cond.fieldLink RX0 9 "WardrobeKeeper" "kinds" "[I", Cond.fieldLink RX0 25 "WardrobeKeeper" "wearsLeft" "[I", Cond.methodLink RX0 64 yX0_isThing, Cond.instanceMethod yX0_isThing, Cond.selects RX0 yX0_isThing yX0_isThing, Cond.code yX0_isThing cX0_isThing 2 (some .boolean), Cond.fieldLink RX0 61 "WardrobeKeeper" "owned" "I", Cond.methodLink RX0 197 yX0_doClash, Cond.instanceMethod yX0_doClash, Cond.selects RX0 yX0_doClash yX0_doClash, Cond.code yX0_doClash cX0_doClash 3 (some .boolean), Cond.fieldLink RX0 13 "WardrobeKeeper" "colours" "[I", Cond.methodLink RX0 80 yX0_coloursClash, Cond.instanceMethod yX0_coloursClash, Cond.selects RX0 yX0_coloursClash yX0_coloursClash, Cond.code yX0_coloursClash cX0_coloursClash 3 (some .boolean), Cond.fieldLink RX0 88 "WardrobeKeeper" "clashes" "J", Cond.methodLink RX0 84 yX0_clashBit, Cond.static yX0_clashBit, Cond.code yX0_clashBit cX0_clashBit 2 (some .long), Cond.methodLink RX0 200 yX0_fitsOver, Cond.instanceMethod yX0_fitsOver]
def wsL_outfitFor_r3 : List Cond := [Cond.selects RX0 yX0_fitsOver yX0_fitsOver, Cond.code yX0_fitsOver cX0_fitsOver 4 (some .boolean), Cond.methodLink RX0 110 yX0_wasSeenLately, Cond.instanceMethod yX0_wasSeenLately, Cond.selects RX0 yX0_wasSeenLately yX0_wasSeenLately, Cond.code yX0_wasSeenLately cX0_wasSeenLately 6 (some .boolean), Cond.fieldLink RX0 162 "WardrobeKeeper" "today" "I", Cond.fieldLink RX0 28 "WardrobeKeeper" "freeFrom" "[I", Cond.methodLink RX0 206 yX0_firstSeat, Cond.static yX0_firstSeat, Cond.code yX0_firstSeat cX0_firstSeat 2 (some .int), Cond.methodLink RX0 123 yX0_outfitWarmth, Cond.instanceMethod yX0_outfitWarmth, Cond.selects RX0 yX0_outfitWarmth yX0_outfitWarmth, Cond.code yX0_outfitWarmth cX0_outfitWarmth 4 (some .int), Cond.methodLink RX0 203 yX0_warmthOf, Cond.instanceMethod yX0_warmthOf, Cond.selects RX0 yX0_warmthOf yX0_warmthOf, Cond.code yX0_warmthOf cX0_warmthOf 2 (some .int), Cond.fieldLink RX0 16 "WardrobeKeeper" "warmths" "[I", Cond.methodLink RX0 135 yX0_isWarmOutfit, Cond.instanceMethod yX0_isWarmOutfit, Cond.selects RX0 yX0_isWarmOutfit yX0_isWarmOutfit, Cond.code yX0_isWarmOutfit cX0_isWarmOutfit 5 (some .boolean)]
def wsL_outfitFor : List Cond := .codeWith yL_outfitFor cL_outfitFor 5 (some .int) [(0, 10, 13, 13)] :: ((wsL_outfitFor_r1 ++ (wsL_outfitFor_r2 ++ wsL_outfitFor_r3)) ++ wsX00 ++ (vx_atS RX0 49 "java/lang/IllegalArgumentException" ["java/lang/RuntimeException", "java/lang/Exception"]).filter goodWord)
def wsL_load_r1 : List Cond := [Cond.classLink RL 13 "java/lang/IllegalArgumentException", Cond.methodLink RL 51 yX0_load, Cond.instanceMethod yX0_load, Cond.selects RX0 yX0_load yX0_load, Cond.initialized RX0, Cond.code yX0_load cX0_load 5 (some .int), Cond.classLink RX0 45 "java/lang/IllegalArgumentException", Cond.initialized "java/lang/IllegalArgumentException", Cond.fieldLink RX0 52 "WardrobeKeeper" "added" "I", Cond.methodLink RX0 42 yX0_isCare, Cond.static yX0_isCare, Cond.code yX0_isCare cX0_isCare 1 (some .boolean), Cond.methodLink RX0 34 yX0_isWithin, Cond.static yX0_isWithin, Cond.code yX0_isWithin cX0_isWithin 3 (some .boolean), Cond.methodLink RX0 146 yX0_isWashedWith, Cond.instanceMethod yX0_isWashedWith, Cond.selects RX0 yX0_isWashedWith yX0_isWashedWith, Cond.code yX0_isWashedWith cX0_isWashedWith 4 (some .boolean), Cond.fieldLink RX0 22 "WardrobeKeeper" "cares" "[I", Cond.fieldLink RX0 13 "WardrobeKeeper" "colours" "[I", Cond.methodLink RX0 64 yX0_isThing, Cond.instanceMethod yX0_isThing, Cond.selects RX0 yX0_isThing yX0_isThing]
def wsL_load_r2 : List Cond := [Cond.code yX0_isThing cX0_isThing 2 (some .boolean), Cond.fieldLink RX0 61 "WardrobeKeeper" "owned" "I", Cond.methodLink RX0 150 yX0_wearsLeftOf, Cond.instanceMethod yX0_wearsLeftOf, Cond.selects RX0 yX0_wearsLeftOf yX0_wearsLeftOf, Cond.code yX0_wearsLeftOf cX0_wearsLeftOf 2 (some .int), Cond.fieldLink RX0 25 "WardrobeKeeper" "wearsLeft" "[I"]
def wsL_load : List Cond := .codeWith yL_load cL_load 5 (some .int) [(0, 10, 13, 13)] :: ((wsL_load_r1 ++ wsL_load_r2) ++ wsX00 ++ (vx_atS RX0 49 "java/lang/IllegalArgumentException" ["java/lang/RuntimeException", "java/lang/Exception"]).filter goodWord)
def wsL_wash_r1 : List Cond := [Cond.classLink RL 13 "java/lang/IllegalArgumentException", Cond.methodLink RL 55 yX0_wash, Cond.instanceMethod yX0_wash, Cond.selects RX0 yX0_wash yX0_wash, Cond.initialized RX0, Cond.code yX0_wash cX0_wash 6 (some .int), Cond.classLink RX0 45 "java/lang/IllegalArgumentException", Cond.initialized "java/lang/IllegalArgumentException", Cond.methodLink RX0 42 yX0_isCare, Cond.static yX0_isCare, Cond.code yX0_isCare cX0_isCare 1 (some .boolean), Cond.methodLink RX0 34 yX0_isWithin, Cond.static yX0_isWithin, Cond.code yX0_isWithin cX0_isWithin 3 (some .boolean), Cond.methodLink RX0 153 yX0_nextToWash, Cond.instanceMethod yX0_nextToWash, Cond.selects RX0 yX0_nextToWash yX0_nextToWash, Cond.code yX0_nextToWash cX0_nextToWash 5 (some .int), Cond.fieldLink RX0 52 "WardrobeKeeper" "added" "I", Cond.fieldLink RX0 25 "WardrobeKeeper" "wearsLeft" "[I", Cond.fieldLink RX0 19 "WardrobeKeeper" "wearsWhenClean" "[I", Cond.methodLink RX0 146 yX0_isWashedWith, Cond.instanceMethod yX0_isWashedWith, Cond.selects RX0 yX0_isWashedWith yX0_isWashedWith]
def wsL_wash_r2 : List Cond := [Cond.code yX0_isWashedWith cX0_isWashedWith 4 (some .boolean), Cond.fieldLink RX0 22 "WardrobeKeeper" "cares" "[I", Cond.fieldLink RX0 13 "WardrobeKeeper" "colours" "[I", Cond.methodLink RX0 64 yX0_isThing, Cond.instanceMethod yX0_isThing, Cond.selects RX0 yX0_isThing yX0_isThing, Cond.code yX0_isThing cX0_isThing 2 (some .boolean), Cond.fieldLink RX0 61 "WardrobeKeeper" "owned" "I", Cond.methodLink RX0 150 yX0_wearsLeftOf, Cond.instanceMethod yX0_wearsLeftOf, Cond.selects RX0 yX0_wearsLeftOf yX0_wearsLeftOf, Cond.code yX0_wearsLeftOf cX0_wearsLeftOf 2 (some .int), Cond.methodLink RX0 157 yX0_makeClean, Cond.instanceMethod yX0_makeClean, Cond.selects RX0 yX0_makeClean yX0_makeClean, Cond.code yX0_makeClean cX0_makeClean 2 none]
def wsL_wash : List Cond := .codeWith yL_wash cL_wash 5 (some .int) [(0, 10, 13, 13)] :: ((wsL_wash_r1 ++ wsL_wash_r2) ++ wsX00 ++ (vx_atS RX0 49 "java/lang/IllegalArgumentException" ["java/lang/RuntimeException", "java/lang/Exception"]).filter goodWord)
def wsL_pass : List Cond := .codeWith yL_pass cL_pass 4 (some .int) [(0, 9, 12, 13), (0, 9, 15, 15)] :: ([.classLink RL 13 "java/lang/IllegalArgumentException", .classLink RL 15 "java/lang/IllegalStateException", .methodLink RL 58 yX0_pass, .instanceMethod yX0_pass, .selects RX0 yX0_pass yX0_pass, .initialized RX0, .code yX0_pass cX0_pass 2 (some .int), .classLink RX0 45 "java/lang/IllegalArgumentException", .initialized "java/lang/IllegalArgumentException", .classLink RX0 56 "java/lang/IllegalStateException", .initialized "java/lang/IllegalStateException", .fieldLink RX0 162 "WardrobeKeeper" "today" "I", .methodLink RX0 34 yX0_isWithin, .static yX0_isWithin, .code yX0_isWithin cX0_isWithin 3 (some .boolean)] ++ wsX00 ++ (vx_atS RX0 49 "java/lang/IllegalArgumentException" ["java/lang/RuntimeException", "java/lang/Exception"]).filter goodWord ++ (vx_atS RX0 60 "java/lang/IllegalStateException" ["java/lang/RuntimeException", "java/lang/Exception"]).filter goodWord)
def wsL_isEnough_r1 : List Cond := [Cond.classLink RL 13 "java/lang/IllegalArgumentException", Cond.methodLink RL 61 yX0_isEnough, Cond.instanceMethod yX0_isEnough, Cond.selects RX0 yX0_isEnough yX0_isEnough, Cond.initialized RX0, Cond.code yX0_isEnough cX0_isEnough 4 (some .boolean), Cond.classLink RX0 45 "java/lang/IllegalArgumentException", Cond.initialized "java/lang/IllegalArgumentException", Cond.fieldLink RX0 61 "WardrobeKeeper" "owned" "I", Cond.methodLink RX0 167 yX0_isBagQuestion, Cond.static yX0_isBagQuestion, Cond.code yX0_isBagQuestion cX0_isBagQuestion 2 (some .boolean), Cond.methodLink RX0 34 yX0_isWithin, Cond.static yX0_isWithin, Cond.code yX0_isWithin cX0_isWithin 3 (some .boolean), Cond.methodLink RX0 172 yX0_findPartners, Cond.instanceMethod yX0_findPartners, Cond.selects RX0 yX0_findPartners yX0_findPartners, Cond.code yX0_findPartners cX0_findPartners 4 none, Cond.fieldLink RX0 31 "WardrobeKeeper" "partners" "[I", Cond.fieldLink RX0 52 "WardrobeKeeper" "added" "I", Cond.methodLink RX0 209 yX0_arePartners, Cond.instanceMethod yX0_arePartners, Cond.selects RX0 yX0_arePartners yX0_arePartners]
def wsL_isEnough_r2 : List Cond := [Cond.code yX0_arePartners cX0_arePartners 4 (some .boolean), Cond.methodLink RX0 97 yX0_areOfTheirKinds, Cond.instanceMethod yX0_areOfTheirKinds, Cond.selects RX0 yX0_areOfTheirKinds yX0_areOfTheirKinds, Cond.code yX0_areOfTheirKinds cX0_areOfTheirKinds 4 (some .boolean), Cond.methodLink RX0 191 yX0_isOfKind, Cond.instanceMethod yX0_isOfKind, Cond.selects RX0 yX0_isOfKind yX0_isOfKind, Cond.code yX0_isOfKind cX0_isOfKind 3 (some .boolean), Cond.fieldLink RX0 9 "WardrobeKeeper" "kinds" "[I", Cond.methodLink RX0 64 yX0_isThing, Cond.instanceMethod yX0_isThing, Cond.selects RX0 yX0_isThing yX0_isThing, Cond.code yX0_isThing cX0_isThing 2 (some .boolean), Cond.methodLink RX0 197 yX0_doClash, Cond.instanceMethod yX0_doClash, Cond.selects RX0 yX0_doClash yX0_doClash, Cond.code yX0_doClash cX0_doClash 3 (some .boolean), Cond.fieldLink RX0 13 "WardrobeKeeper" "colours" "[I", Cond.methodLink RX0 80 yX0_coloursClash, Cond.instanceMethod yX0_coloursClash, Cond.selects RX0 yX0_coloursClash yX0_coloursClash, Cond.code yX0_coloursClash cX0_coloursClash 3 (some .boolean), Cond.fieldLink RX0 88 "WardrobeKeeper" "clashes" "J"]
def wsL_isEnough_r3 : List Cond := [Cond.methodLink RX0 84 yX0_clashBit, Cond.static yX0_clashBit, Cond.code yX0_clashBit cX0_clashBit 2 (some .long), Cond.methodLink RX0 123 yX0_outfitWarmth, Cond.instanceMethod yX0_outfitWarmth, Cond.selects RX0 yX0_outfitWarmth yX0_outfitWarmth, Cond.code yX0_outfitWarmth cX0_outfitWarmth 4 (some .int), Cond.methodLink RX0 203 yX0_warmthOf, Cond.instanceMethod yX0_warmthOf, Cond.selects RX0 yX0_warmthOf yX0_warmthOf, Cond.code yX0_warmthOf cX0_warmthOf 2 (some .int), Cond.fieldLink RX0 16 "WardrobeKeeper" "warmths" "[I", Cond.methodLink RX0 175 yX0_thingsOfKind, Cond.instanceMethod yX0_thingsOfKind, Cond.selects RX0 yX0_thingsOfKind yX0_thingsOfKind, Cond.code yX0_thingsOfKind cX0_thingsOfKind 4 (some .int), Cond.methodLink RX0 178 yX0_lasts, Cond.instanceMethod yX0_lasts, Cond.selects RX0 yX0_lasts yX0_lasts, Cond.code yX0_lasts cX0_lasts 9 (some .boolean), Cond.methodLink RX0 72 yJ6_bitCount_0f7a4, Cond.static yJ6_bitCount_0f7a4, Cond.initialized RJ6, Cond.code yJ6_bitCount_0f7a4 cJ6_bitCount_0f7a4 1 (some .int)]
def wsL_isEnough_r4 : List Cond := [Cond.constant RJ6 265 (1431655765), Cond.constant RJ6 266 (858993459), Cond.constant RJ6 267 (252645135), Cond.methodLink RX0 212 yX0_wearsLeftIn, Cond.instanceMethod yX0_wearsLeftIn, Cond.selects RX0 yX0_wearsLeftIn yX0_wearsLeftIn, Cond.code yX0_wearsLeftIn cX0_wearsLeftIn 4 (some .int), Cond.fieldLink RX0 25 "WardrobeKeeper" "wearsLeft" "[I", Cond.methodLink RX0 215 yX0_partnersOf, Cond.instanceMethod yX0_partnersOf, Cond.selects RX0 yX0_partnersOf yX0_partnersOf, Cond.code yX0_partnersOf cX0_partnersOf 4 (some .int), Cond.methodLink RX0 187 yX0_nextPart, Cond.static yX0_nextPart, Cond.code yX0_nextPart cX0_nextPart 2 (some .int)]
def wsL_isEnough : List Cond := .codeWith yL_isEnough cL_isEnough 6 (some .int) [(0, 19, 22, 13)] :: ((wsL_isEnough_r1 ++ (wsL_isEnough_r2 ++ (wsL_isEnough_r3 ++ wsL_isEnough_r4))) ++ wsX00 ++ (vx_atS RX0 49 "java/lang/IllegalArgumentException" ["java/lang/RuntimeException", "java/lang/Exception"]).filter goodWord)
def wsL_bag_r1 : List Cond := [Cond.classLink RL 13 "java/lang/IllegalArgumentException", Cond.methodLink RL 64 yX0_bag, Cond.instanceMethod yX0_bag, Cond.selects RX0 yX0_bag yX0_bag, Cond.initialized RX0, Cond.code yX0_bag cX0_bag 11 (some .int), Cond.classLink RX0 45 "java/lang/IllegalArgumentException", Cond.initialized "java/lang/IllegalArgumentException", Cond.methodLink RX0 167 yX0_isBagQuestion, Cond.static yX0_isBagQuestion, Cond.code yX0_isBagQuestion cX0_isBagQuestion 2 (some .boolean), Cond.methodLink RX0 34 yX0_isWithin, Cond.static yX0_isWithin, Cond.code yX0_isWithin cX0_isWithin 3 (some .boolean), Cond.methodLink RX0 172 yX0_findPartners, Cond.instanceMethod yX0_findPartners, Cond.selects RX0 yX0_findPartners yX0_findPartners, Cond.code yX0_findPartners cX0_findPartners 4 none, Cond.fieldLink RX0 31 "WardrobeKeeper" "partners" "[I", Cond.fieldLink RX0 52 "WardrobeKeeper" "added" "I", Cond.methodLink RX0 209 yX0_arePartners, Cond.instanceMethod yX0_arePartners, Cond.selects RX0 yX0_arePartners yX0_arePartners, Cond.code yX0_arePartners cX0_arePartners 4 (some .boolean)]
def wsL_bag_r2 : List Cond := [Cond.methodLink RX0 97 yX0_areOfTheirKinds, Cond.instanceMethod yX0_areOfTheirKinds, Cond.selects RX0 yX0_areOfTheirKinds yX0_areOfTheirKinds, Cond.code yX0_areOfTheirKinds cX0_areOfTheirKinds 4 (some .boolean), Cond.methodLink RX0 191 yX0_isOfKind, Cond.instanceMethod yX0_isOfKind, Cond.selects RX0 yX0_isOfKind yX0_isOfKind, Cond.code yX0_isOfKind cX0_isOfKind 3 (some .boolean), Cond.fieldLink RX0 9 "WardrobeKeeper" "kinds" "[I", Cond.methodLink RX0 64 yX0_isThing, Cond.instanceMethod yX0_isThing, Cond.selects RX0 yX0_isThing yX0_isThing, Cond.code yX0_isThing cX0_isThing 2 (some .boolean), Cond.fieldLink RX0 61 "WardrobeKeeper" "owned" "I", Cond.methodLink RX0 197 yX0_doClash, Cond.instanceMethod yX0_doClash, Cond.selects RX0 yX0_doClash yX0_doClash, Cond.code yX0_doClash cX0_doClash 3 (some .boolean), Cond.fieldLink RX0 13 "WardrobeKeeper" "colours" "[I", Cond.methodLink RX0 80 yX0_coloursClash, Cond.instanceMethod yX0_coloursClash, Cond.selects RX0 yX0_coloursClash yX0_coloursClash, Cond.code yX0_coloursClash cX0_coloursClash 3 (some .boolean), Cond.fieldLink RX0 88 "WardrobeKeeper" "clashes" "J"]
def wsL_bag_r3 : List Cond := [Cond.methodLink RX0 84 yX0_clashBit, Cond.static yX0_clashBit, Cond.code yX0_clashBit cX0_clashBit 2 (some .long), Cond.methodLink RX0 123 yX0_outfitWarmth, Cond.instanceMethod yX0_outfitWarmth, Cond.selects RX0 yX0_outfitWarmth yX0_outfitWarmth, Cond.code yX0_outfitWarmth cX0_outfitWarmth 4 (some .int), Cond.methodLink RX0 203 yX0_warmthOf, Cond.instanceMethod yX0_warmthOf, Cond.selects RX0 yX0_warmthOf yX0_warmthOf, Cond.code yX0_warmthOf cX0_warmthOf 2 (some .int), Cond.fieldLink RX0 16 "WardrobeKeeper" "warmths" "[I", Cond.methodLink RX0 183 yX0_usefulThings, Cond.instanceMethod yX0_usefulThings, Cond.selects RX0 yX0_usefulThings yX0_usefulThings, Cond.code yX0_usefulThings cX0_usefulThings 3 (some .int), Cond.methodLink RX0 150 yX0_wearsLeftOf, Cond.instanceMethod yX0_wearsLeftOf, Cond.selects RX0 yX0_wearsLeftOf yX0_wearsLeftOf, Cond.code yX0_wearsLeftOf cX0_wearsLeftOf 2 (some .int), Cond.fieldLink RX0 25 "WardrobeKeeper" "wearsLeft" "[I", Cond.methodLink RX0 175 yX0_thingsOfKind, Cond.instanceMethod yX0_thingsOfKind, Cond.selects RX0 yX0_thingsOfKind yX0_thingsOfKind]
def wsL_bag_r4 : List Cond := [Cond.code yX0_thingsOfKind cX0_thingsOfKind 4 (some .int), Cond.methodLink RX0 178 yX0_lasts, Cond.instanceMethod yX0_lasts, Cond.selects RX0 yX0_lasts yX0_lasts, Cond.code yX0_lasts cX0_lasts 9 (some .boolean), Cond.methodLink RX0 72 yJ6_bitCount_0f7a4, Cond.static yJ6_bitCount_0f7a4, Cond.initialized RJ6, Cond.code yJ6_bitCount_0f7a4 cJ6_bitCount_0f7a4 1 (some .int), Cond.constant RJ6 265 (1431655765), Cond.constant RJ6 266 (858993459), Cond.constant RJ6 267 (252645135), Cond.methodLink RX0 212 yX0_wearsLeftIn, Cond.instanceMethod yX0_wearsLeftIn, Cond.selects RX0 yX0_wearsLeftIn yX0_wearsLeftIn, Cond.code yX0_wearsLeftIn cX0_wearsLeftIn 4 (some .int), Cond.methodLink RX0 215 yX0_partnersOf, Cond.instanceMethod yX0_partnersOf, Cond.selects RX0 yX0_partnersOf yX0_partnersOf, Cond.code yX0_partnersOf cX0_partnersOf 4 (some .int), Cond.methodLink RX0 187 yX0_nextPart, Cond.static yX0_nextPart, Cond.code yX0_nextPart cX0_nextPart 2 (some .int)]
def wsL_bag : List Cond := .codeWith yL_bag cL_bag 5 (some .int) [(0, 10, 13, 13)] :: ((wsL_bag_r1 ++ (wsL_bag_r2 ++ (wsL_bag_r3 ++ wsL_bag_r4))) ++ wsX00 ++ (vx_atS RX0 49 "java/lang/IllegalArgumentException" ["java/lang/RuntimeException", "java/lang/Exception"]).filter goodWord)
def wsL_law0_r1 : List Cond := [Cond.classLink RL 8 RX0, Cond.instantiable RX0 12, Cond.initialized RX0, Cond.classLink RL 68 RX1, Cond.instantiable RX1 13, Cond.initialized RX1, Cond.arrayClass .long, Cond.methodLink RL 67 yX0_init, Cond.instanceMethod yX0_init, Cond.code yX0_init cX0_init 1 none, Cond.methodLink RX0 1 objectInit, Cond.instanceMethod objectInit, Cond.code objectInit ⟨#[0xb1]⟩ 1 none, Cond.arrayClass .int, Cond.fieldLink RX0 9 "WardrobeKeeper" "kinds" "[I", Cond.fieldLink RX0 13 "WardrobeKeeper" "colours" "[I", Cond.fieldLink RX0 16 "WardrobeKeeper" "warmths" "[I", Cond.fieldLink RX0 19 "WardrobeKeeper" "wearsWhenClean" "[I", Cond.fieldLink RX0 22 "WardrobeKeeper" "cares" "[I", Cond.fieldLink RX0 25 "WardrobeKeeper" "wearsLeft" "[I", Cond.fieldLink RX0 28 "WardrobeKeeper" "freeFrom" "[I", Cond.fieldLink RX0 31 "WardrobeKeeper" "partners" "[I", Cond.methodLink RL 70 yX1_init, Cond.instanceMethod yX1_init]
def wsL_law0_r2 : List Cond := [Cond.code yX1_init cX1_init 1 none, Cond.methodLink RX1 1 objectInit, Cond.arrayClass .boolean, Cond.fieldLink RX1 7 "WardrobeKeeperModel" "isGone" "[Z", Cond.fieldLink RX1 13 "WardrobeKeeperModel" "kinds" "[I", Cond.fieldLink RX1 17 "WardrobeKeeperModel" "colours" "[I", Cond.fieldLink RX1 20 "WardrobeKeeperModel" "warmths" "[I", Cond.fieldLink RX1 23 "WardrobeKeeperModel" "wears" "[I", Cond.fieldLink RX1 26 "WardrobeKeeperModel" "cares" "[I", Cond.fieldLink RX1 29 "WardrobeKeeperModel" "lefts" "[I", Cond.fieldLink RX1 32 "WardrobeKeeperModel" "clash" "[Z", Cond.fieldLink RX1 35 "WardrobeKeeperModel" "seen" "[I", Cond.fieldLink RX1 38 "WardrobeKeeperModel" "goesWith" "[I", Cond.methodLink RL 71 yL_add, Cond.static yL_add, Cond.initialized RL, Cond.codeWith yL_add cL_add 8 (some .int) [(0, 16, 19, 13), (0, 16, 23, 15)], Cond.classLink RL 13 "java/lang/IllegalArgumentException", Cond.classLink RL 15 "java/lang/IllegalStateException", Cond.methodLink RL 7 yX0_add, Cond.instanceMethod yX0_add, Cond.selects RX0 yX0_add yX0_add, Cond.code yX0_add cX0_add 7 (some .int), Cond.classLink RX0 45 "java/lang/IllegalArgumentException"]
def wsL_law0_r3 : List Cond := [Cond.initialized "java/lang/IllegalArgumentException", Cond.classLink RX0 56 "java/lang/IllegalStateException", Cond.initialized "java/lang/IllegalStateException", Cond.fieldLink RX0 52 "WardrobeKeeper" "added" "I", Cond.fieldLink RX0 61 "WardrobeKeeper" "owned" "I", Cond.methodLink RX0 34 yX0_isWithin, Cond.static yX0_isWithin, Cond.code yX0_isWithin cX0_isWithin 3 (some .boolean), Cond.methodLink RX0 38 yX0_isColour, Cond.static yX0_isColour, Cond.code yX0_isColour cX0_isColour 1 (some .boolean), Cond.methodLink RX0 42 yX0_isCare, Cond.static yX0_isCare, Cond.code yX0_isCare cX0_isCare 1 (some .boolean), Cond.methodLink RL 76 yX1_add, Cond.instanceMethod yX1_add, Cond.selects RX1 yX1_add yX1_add, Cond.code yX1_add cX1_add 7 (some .int), Cond.fieldLink RX1 45 "WardrobeKeeperModel" "added" "I", Cond.methodLink RX1 48 yX1_isIn, Cond.static yX1_isIn, Cond.code yX1_isIn cX1_isIn 3 (some .boolean), Cond.methodLink RX1 52 yX1_isColour, Cond.static yX1_isColour]
def wsL_law0_r4 : List Cond := [Cond.code yX1_isColour cX1_isColour 1 (some .boolean), Cond.methodLink RX1 56 yX1_isCare, Cond.static yX1_isCare, Cond.code yX1_isCare cX1_isCare 1 (some .boolean), Cond.methodLink RX1 59 yX1_goes, Cond.instanceMethod yX1_goes, Cond.selects RX1 yX1_goes yX1_goes, Cond.code yX1_goes cX1_goes 2 (some .boolean), Cond.fieldLink RX1 41 "WardrobeKeeperModel" "thrown" "I", Cond.methodLink RL 77 yX1_thrown, Cond.instanceMethod yX1_thrown, Cond.selects RX1 yX1_thrown yX1_thrown, Cond.code yX1_thrown cX1_thrown 1 (some .int), Cond.methodLink RL 81 yL_giveAway, Cond.static yL_giveAway, Cond.codeWith yL_giveAway cL_giveAway 4 (some .int) [(0, 9, 12, 21)], Cond.classLink RL 21 "java/lang/IndexOutOfBoundsException", Cond.methodLink RL 17 yX0_giveAway, Cond.instanceMethod yX0_giveAway, Cond.selects RX0 yX0_giveAway yX0_giveAway, Cond.code yX0_giveAway cX0_giveAway 2 (some .int), Cond.classLink RX0 67 "java/lang/IndexOutOfBoundsException", Cond.initialized "java/lang/IndexOutOfBoundsException", Cond.methodLink RX0 64 yX0_isThing]
def wsL_law0_r5 : List Cond := [Cond.instanceMethod yX0_isThing, Cond.selects RX0 yX0_isThing yX0_isThing, Cond.code yX0_isThing cX0_isThing 2 (some .boolean), Cond.methodLink RX0 72 yJ6_bitCount_0f7a4, Cond.static yJ6_bitCount_0f7a4, Cond.initialized RJ6, Cond.code yJ6_bitCount_0f7a4 cJ6_bitCount_0f7a4 1 (some .int), Cond.constant RJ6 265 (1431655765), Cond.constant RJ6 266 (858993459), Cond.constant RJ6 267 (252645135), Cond.methodLink RL 84 yX1_giveAway, Cond.instanceMethod yX1_giveAway, Cond.selects RX1 yX1_giveAway yX1_giveAway, Cond.code yX1_giveAway cX1_giveAway 2 (some .int), Cond.methodLink RX1 62 yX1_isThing, Cond.instanceMethod yX1_isThing, Cond.selects RX1 yX1_isThing yX1_isThing, Cond.code yX1_isThing cX1_isThing 2 (some .boolean), Cond.methodLink RX1 65 yX1_here, Cond.instanceMethod yX1_here, Cond.selects RX1 yX1_here yX1_here, Cond.code yX1_here cX1_here 3 (some .int), Cond.methodLink RL 85 yL_setClash, Cond.static yL_setClash]
def wsL_law0_r6 : List Cond := [Cond.codeWith yL_setClash cL_setClash 6 (some .int) [(0, 19, 22, 13)], Cond.methodLink RL 23 yX0_setClash, Cond.instanceMethod yX0_setClash, Cond.selects RX0 yX0_setClash yX0_setClash, Cond.code yX0_setClash cX0_setClash 7 (some .boolean), Cond.fieldLink RX0 88 "WardrobeKeeper" "clashes" "J", Cond.constantLong RX0 92 (-1), Cond.methodLink RX0 80 yX0_coloursClash, Cond.instanceMethod yX0_coloursClash, Cond.selects RX0 yX0_coloursClash yX0_coloursClash, Cond.code yX0_coloursClash cX0_coloursClash 3 (some .boolean), Cond.methodLink RX0 84 yX0_clashBit, Cond.static yX0_clashBit, Cond.code yX0_clashBit cX0_clashBit 2 (some .long), Cond.methodLink RL 88 yX1_setClash, Cond.instanceMethod yX1_setClash, Cond.selects RX1 yX1_setClash yX1_setClash, Cond.code yX1_setClash cX1_setClash 5 (some .boolean), Cond.methodLink RL 89 yX0_things, Cond.instanceMethod yX0_things, Cond.selects RX0 yX0_things yX0_things, Cond.code yX0_things cX0_things 1 (some .int), Cond.methodLink RL 92 yX1_things, Cond.instanceMethod yX1_things]
def wsL_law0_r7 : List Cond := [Cond.selects RX1 yX1_things yX1_things, Cond.code yX1_things cX1_things 1 (some .int), Cond.methodLink RL 93 yL_left, Cond.static yL_left, Cond.codeWith yL_left cL_left 4 (some .int) [(0, 9, 12, 21)], Cond.methodLink RL 27 yX0_left, Cond.instanceMethod yX0_left, Cond.selects RX0 yX0_left yX0_left, Cond.code yX0_left cX0_left 2 (some .int), Cond.methodLink RL 95 yX1_left, Cond.instanceMethod yX1_left, Cond.selects RX1 yX1_left yX1_left, Cond.code yX1_left cX1_left 2 (some .int), Cond.methodLink RL 96 yL_isPossible, Cond.static yL_isPossible, Cond.codeWith yL_isPossible cL_isPossible 6 (some .int) [(0, 19, 22, 21), (0, 19, 26, 13)], Cond.methodLink RL 30 yX0_isPossible, Cond.instanceMethod yX0_isPossible, Cond.selects RX0 yX0_isPossible yX0_isPossible, Cond.code yX0_isPossible cX0_isPossible 4 (some .boolean), Cond.methodLink RX0 94 yX0_areThings, Cond.instanceMethod yX0_areThings, Cond.selects RX0 yX0_areThings yX0_areThings, Cond.code yX0_areThings cX0_areThings 4 (some .boolean)]
def wsL_law0_r8 : List Cond := [Cond.methodLink RX0 97 yX0_areOfTheirKinds, Cond.instanceMethod yX0_areOfTheirKinds, Cond.selects RX0 yX0_areOfTheirKinds yX0_areOfTheirKinds, Cond.code yX0_areOfTheirKinds cX0_areOfTheirKinds 4 (some .boolean), Cond.methodLink RX0 191 yX0_isOfKind, Cond.instanceMethod yX0_isOfKind, Cond.selects RX0 yX0_isOfKind yX0_isOfKind, Cond.code yX0_isOfKind cX0_isOfKind 3 (some .boolean), Cond.methodLink RX0 102 yX0_canBeWorn, Cond.instanceMethod yX0_canBeWorn, Cond.selects RX0 yX0_canBeWorn yX0_canBeWorn, Cond.code yX0_canBeWorn cX0_canBeWorn 4 (some .boolean), Cond.methodLink RX0 194 yX0_isCleanOfKind, Cond.instanceMethod yX0_isCleanOfKind, Cond.selects RX0 yX0_isCleanOfKind yX0_isCleanOfKind, Cond.code yX0_isCleanOfKind cX0_isCleanOfKind 3 (some .boolean), Cond.methodLink RX0 197 yX0_doClash, Cond.instanceMethod yX0_doClash, Cond.selects RX0 yX0_doClash yX0_doClash, Cond.code yX0_doClash cX0_doClash 3 (some .boolean), Cond.methodLink RX0 200 yX0_fitsOver, Cond.instanceMethod yX0_fitsOver, Cond.selects RX0 yX0_fitsOver yX0_fitsOver, Cond.code yX0_fitsOver cX0_fitsOver 4 (some .boolean)]
def wsL_law0_r9 : List Cond := [Cond.methodLink RL 99 yX1_isPossible, Cond.instanceMethod yX1_isPossible, Cond.selects RX1 yX1_isPossible yX1_isPossible, Cond.code yX1_isPossible cX1_isPossible 4 (some .boolean), Cond.methodLink RX1 76 yX1_wrong, Cond.instanceMethod yX1_wrong, Cond.selects RX1 yX1_wrong yX1_wrong, Cond.code yX1_wrong cX1_wrong 5 (some .int), Cond.methodLink RX1 80 yX1_fits, Cond.instanceMethod yX1_fits, Cond.selects RX1 yX1_fits yX1_fits, Cond.code yX1_fits cX1_fits 5 (some .boolean), Cond.methodLink RX1 69 yX1_doClash, Cond.instanceMethod yX1_doClash, Cond.selects RX1 yX1_doClash yX1_doClash, Cond.code yX1_doClash cX1_doClash 3 (some .boolean), Cond.methodLink RL 100 yL_isTooSoon, Cond.static yL_isTooSoon, Cond.codeWith yL_isTooSoon cL_isTooSoon 6 (some .int) [(0, 19, 22, 21), (0, 19, 26, 13)], Cond.methodLink RL 34 yX0_isTooSoon, Cond.instanceMethod yX0_isTooSoon, Cond.selects RX0 yX0_isTooSoon yX0_isTooSoon, Cond.code yX0_isTooSoon cX0_isTooSoon 4 (some .boolean), Cond.methodLink RX0 105 yX0_arePeople]
def wsL_law0_r10 : List Cond := [Cond.static yX0_arePeople, Cond.code yX0_arePeople cX0_arePeople 1 (some .boolean), Cond.methodLink RX0 110 yX0_wasSeenLately, Cond.instanceMethod yX0_wasSeenLately, Cond.selects RX0 yX0_wasSeenLately yX0_wasSeenLately, Cond.code yX0_wasSeenLately cX0_wasSeenLately 6 (some .boolean), Cond.fieldLink RX0 162 "WardrobeKeeper" "today" "I", Cond.methodLink RX0 206 yX0_firstSeat, Cond.static yX0_firstSeat, Cond.code yX0_firstSeat cX0_firstSeat 2 (some .int), Cond.methodLink RL 102 yX1_isTooSoon, Cond.instanceMethod yX1_isTooSoon, Cond.selects RX1 yX1_isTooSoon yX1_isTooSoon, Cond.code yX1_isTooSoon cX1_isTooSoon 5 (some .boolean), Cond.methodLink RX1 83 yX1_arePeople, Cond.static yX1_arePeople, Cond.code yX1_arePeople cX1_arePeople 1 (some .boolean), Cond.methodLink RX1 86 yX1_isSoon, Cond.instanceMethod yX1_isSoon, Cond.selects RX1 yX1_isSoon yX1_isSoon, Cond.code yX1_isSoon cX1_isSoon 7 (some .boolean), Cond.fieldLink RX1 73 "WardrobeKeeperModel" "today" "I", Cond.methodLink RL 103 yL_wear, Cond.static yL_wear]
def wsL_law0_r11 : List Cond := [Cond.codeWith yL_wear cL_wear 7 (some .int) [(0, 14, 17, 21), (0, 14, 21, 13), (0, 14, 25, 15)], Cond.methodLink RL 37 yX0_wear, Cond.instanceMethod yX0_wear, Cond.selects RX0 yX0_wear yX0_wear, Cond.code yX0_wear cX0_wear 5 (some .int), Cond.methodLink RX0 115 yX0_wearOnce, Cond.instanceMethod yX0_wearOnce, Cond.selects RX0 yX0_wearOnce yX0_wearOnce, Cond.code yX0_wearOnce cX0_wearOnce 2 none, Cond.methodLink RX0 150 yX0_wearsLeftOf, Cond.instanceMethod yX0_wearsLeftOf, Cond.selects RX0 yX0_wearsLeftOf yX0_wearsLeftOf, Cond.code yX0_wearsLeftOf cX0_wearsLeftOf 2 (some .int), Cond.methodLink RX0 119 yX0_showTo, Cond.instanceMethod yX0_showTo, Cond.selects RX0 yX0_showTo yX0_showTo, Cond.code yX0_showTo cX0_showTo 6 none, Cond.methodLink RX0 123 yX0_outfitWarmth, Cond.instanceMethod yX0_outfitWarmth, Cond.selects RX0 yX0_outfitWarmth yX0_outfitWarmth, Cond.code yX0_outfitWarmth cX0_outfitWarmth 4 (some .int), Cond.methodLink RX0 203 yX0_warmthOf, Cond.instanceMethod yX0_warmthOf, Cond.selects RX0 yX0_warmthOf yX0_warmthOf]
def wsL_law0_r12 : List Cond := [Cond.code yX0_warmthOf cX0_warmthOf 2 (some .int), Cond.methodLink RL 106 yX1_wear, Cond.instanceMethod yX1_wear, Cond.selects RX1 yX1_wear yX1_wear, Cond.code yX1_wear cX1_wear 8 (some .int), Cond.methodLink RX1 89 yX1_warmthOf, Cond.instanceMethod yX1_warmthOf, Cond.selects RX1 yX1_warmthOf yX1_warmthOf, Cond.code yX1_warmthOf cX1_warmthOf 4 (some .int), Cond.methodLink RL 107 yL_outfits, Cond.static yL_outfits, Cond.codeWith yL_outfits cL_outfits 4 (some .int) [(0, 9, 12, 13)], Cond.methodLink RL 41 yX0_outfits, Cond.instanceMethod yX0_outfits, Cond.selects RX0 yX0_outfits yX0_outfits, Cond.code yX0_outfits cX0_outfits 5 (some .int), Cond.methodLink RX0 127 yX0_isOutfitWarmth, Cond.static yX0_isOutfitWarmth, Cond.code yX0_isOutfitWarmth cX0_isOutfitWarmth 1 (some .boolean), Cond.methodLink RX0 132 yX0_countOutfitsOf, Cond.instanceMethod yX0_countOutfitsOf, Cond.selects RX0 yX0_countOutfitsOf yX0_countOutfitsOf, Cond.code yX0_countOutfitsOf cX0_countOutfitsOf 6 (some .int), Cond.methodLink RX0 135 yX0_isWarmOutfit]
def wsL_law0_r13 : List Cond := [Cond.instanceMethod yX0_isWarmOutfit, Cond.selects RX0 yX0_isWarmOutfit yX0_isWarmOutfit, Cond.code yX0_isWarmOutfit cX0_isWarmOutfit 5 (some .boolean), Cond.methodLink RL 109 yX1_outfits, Cond.instanceMethod yX1_outfits, Cond.selects RX1 yX1_outfits yX1_outfits, Cond.code yX1_outfits cX1_outfits 2 (some .int), Cond.methodLink RX1 92 yX1_count, Cond.instanceMethod yX1_count, Cond.selects RX1 yX1_count yX1_count, Cond.code yX1_count cX1_count 9 (some .int), Cond.methodLink RL 110 yL_adds, Cond.static yL_adds, Cond.codeWith yL_adds cL_adds 5 (some .int) [(0, 10, 13, 21), (0, 10, 17, 13)], Cond.methodLink RL 44 yX0_adds, Cond.instanceMethod yX0_adds, Cond.selects RX0 yX0_adds yX0_adds, Cond.code yX0_adds cX0_adds 6 (some .int), Cond.methodLink RL 113 yX1_adds, Cond.instanceMethod yX1_adds, Cond.selects RX1 yX1_adds yX1_adds, Cond.code yX1_adds cX1_adds 3 (some .int), Cond.methodLink RL 114 yX0_missingTop, Cond.instanceMethod yX0_missingTop]
def wsL_law0_r14 : List Cond := [Cond.selects RX0 yX0_missingTop yX0_missingTop, Cond.code yX0_missingTop cX0_missingTop 5 (some .int), Cond.methodLink RX0 139 yX0_countBottomsFor, Cond.instanceMethod yX0_countBottomsFor, Cond.selects RX0 yX0_countBottomsFor yX0_countBottomsFor, Cond.code yX0_countBottomsFor cX0_countBottomsFor 4 (some .int), Cond.methodLink RL 117 yX1_missingTop, Cond.instanceMethod yX1_missingTop, Cond.selects RX1 yX1_missingTop yX1_missingTop, Cond.code yX1_missingTop cX1_missingTop 7 (some .int), Cond.methodLink RL 118 yL_outfitFor, Cond.static yL_outfitFor, Cond.codeWith yL_outfitFor cL_outfitFor 5 (some .int) [(0, 10, 13, 13)], Cond.methodLink RL 48 yX0_outfitFor, Cond.instanceMethod yX0_outfitFor, Cond.selects RX0 yX0_outfitFor yX0_outfitFor, Cond.code yX0_outfitFor cX0_outfitFor 9 (some .int), Cond.methodLink RL 120 yX1_outfitFor, Cond.instanceMethod yX1_outfitFor, Cond.selects RX1 yX1_outfitFor yX1_outfitFor, Cond.code yX1_outfitFor cX1_outfitFor 11 (some .int), Cond.methodLink RL 121 yL_load, Cond.static yL_load, Cond.codeWith yL_load cL_load 5 (some .int) [(0, 10, 13, 13)]]
def wsL_law0_r15 : List Cond := [Cond.methodLink RL 51 yX0_load, Cond.instanceMethod yX0_load, Cond.selects RX0 yX0_load yX0_load, Cond.code yX0_load cX0_load 5 (some .int), Cond.methodLink RX0 146 yX0_isWashedWith, Cond.instanceMethod yX0_isWashedWith, Cond.selects RX0 yX0_isWashedWith yX0_isWashedWith, Cond.code yX0_isWashedWith cX0_isWashedWith 4 (some .boolean), Cond.methodLink RL 124 yX1_load, Cond.instanceMethod yX1_load, Cond.selects RX1 yX1_load yX1_load, Cond.code yX1_load cX1_load 5 (some .int), Cond.methodLink RX1 96 yX1_isOf, Cond.instanceMethod yX1_isOf, Cond.selects RX1 yX1_isOf yX1_isOf, Cond.code yX1_isOf cX1_isOf 4 (some .boolean), Cond.methodLink RL 125 yL_wash, Cond.static yL_wash, Cond.codeWith yL_wash cL_wash 5 (some .int) [(0, 10, 13, 13)], Cond.methodLink RL 55 yX0_wash, Cond.instanceMethod yX0_wash, Cond.selects RX0 yX0_wash yX0_wash, Cond.code yX0_wash cX0_wash 6 (some .int), Cond.methodLink RX0 153 yX0_nextToWash]
def wsL_law0_r16 : List Cond := [Cond.instanceMethod yX0_nextToWash, Cond.selects RX0 yX0_nextToWash yX0_nextToWash, Cond.code yX0_nextToWash cX0_nextToWash 5 (some .int), Cond.methodLink RX0 157 yX0_makeClean, Cond.instanceMethod yX0_makeClean, Cond.selects RX0 yX0_makeClean yX0_makeClean, Cond.code yX0_makeClean cX0_makeClean 2 none, Cond.methodLink RL 127 yX1_wash, Cond.instanceMethod yX1_wash, Cond.selects RX1 yX1_wash yX1_wash, Cond.code yX1_wash cX1_wash 7 (some .int), Cond.methodLink RL 128 yL_pass, Cond.static yL_pass, Cond.codeWith yL_pass cL_pass 4 (some .int) [(0, 9, 12, 13), (0, 9, 15, 15)], Cond.methodLink RL 58 yX0_pass, Cond.instanceMethod yX0_pass, Cond.selects RX0 yX0_pass yX0_pass, Cond.code yX0_pass cX0_pass 2 (some .int), Cond.methodLink RL 130 yX1_pass, Cond.instanceMethod yX1_pass, Cond.selects RX1 yX1_pass yX1_pass, Cond.code yX1_pass cX1_pass 2 (some .int), Cond.methodLink RL 131 yL_isEnough, Cond.static yL_isEnough]
def wsL_law0_r17 : List Cond := [Cond.codeWith yL_isEnough cL_isEnough 6 (some .int) [(0, 19, 22, 13)], Cond.methodLink RL 61 yX0_isEnough, Cond.instanceMethod yX0_isEnough, Cond.selects RX0 yX0_isEnough yX0_isEnough, Cond.code yX0_isEnough cX0_isEnough 4 (some .boolean), Cond.methodLink RX0 167 yX0_isBagQuestion, Cond.static yX0_isBagQuestion, Cond.code yX0_isBagQuestion cX0_isBagQuestion 2 (some .boolean), Cond.methodLink RX0 172 yX0_findPartners, Cond.instanceMethod yX0_findPartners, Cond.selects RX0 yX0_findPartners yX0_findPartners, Cond.code yX0_findPartners cX0_findPartners 4 none, Cond.methodLink RX0 209 yX0_arePartners, Cond.instanceMethod yX0_arePartners, Cond.selects RX0 yX0_arePartners yX0_arePartners, Cond.code yX0_arePartners cX0_arePartners 4 (some .boolean), Cond.methodLink RX0 175 yX0_thingsOfKind, Cond.instanceMethod yX0_thingsOfKind, Cond.selects RX0 yX0_thingsOfKind yX0_thingsOfKind, Cond.code yX0_thingsOfKind cX0_thingsOfKind 4 (some .int), Cond.methodLink RX0 178 yX0_lasts, Cond.instanceMethod yX0_lasts, Cond.selects RX0 yX0_lasts yX0_lasts, Cond.code yX0_lasts cX0_lasts 9 (some .boolean)]
def wsL_law0_r18 : List Cond := [Cond.methodLink RX0 212 yX0_wearsLeftIn, Cond.instanceMethod yX0_wearsLeftIn, Cond.selects RX0 yX0_wearsLeftIn yX0_wearsLeftIn, Cond.code yX0_wearsLeftIn cX0_wearsLeftIn 4 (some .int), Cond.methodLink RX0 215 yX0_partnersOf, Cond.instanceMethod yX0_partnersOf, Cond.selects RX0 yX0_partnersOf yX0_partnersOf, Cond.code yX0_partnersOf cX0_partnersOf 4 (some .int), Cond.methodLink RX0 187 yX0_nextPart, Cond.static yX0_nextPart, Cond.code yX0_nextPart cX0_nextPart 2 (some .int), Cond.methodLink RL 133 yX1_isEnough, Cond.instanceMethod yX1_isEnough, Cond.selects RX1 yX1_isEnough yX1_isEnough, Cond.code yX1_isEnough cX1_isEnough 5 (some .boolean), Cond.methodLink RX1 104 yX1_setOf, Cond.instanceMethod yX1_setOf, Cond.selects RX1 yX1_setOf yX1_setOf, Cond.code yX1_setOf cX1_setOf 4 (some .int), Cond.methodLink RX1 107 yX1_laysPairs, Cond.instanceMethod yX1_laysPairs, Cond.selects RX1 yX1_laysPairs yX1_laysPairs, Cond.code yX1_laysPairs cX1_laysPairs 5 none, Cond.methodLink RX1 111 yX1_daysOf]
def wsL_law0_r19 : List Cond := [Cond.instanceMethod yX1_daysOf, Cond.selects RX1 yX1_daysOf yX1_daysOf, Cond.code yX1_daysOf cX1_daysOf 10 (some .int), Cond.methodLink RX1 100 yX1_worn, Cond.instanceMethod yX1_worn, Cond.selects RX1 yX1_worn yX1_worn, Cond.code yX1_worn cX1_worn 4 (some .int), Cond.methodLink RL 134 yL_bag, Cond.static yL_bag, Cond.codeWith yL_bag cL_bag 5 (some .int) [(0, 10, 13, 13)], Cond.methodLink RL 64 yX0_bag, Cond.instanceMethod yX0_bag, Cond.selects RX0 yX0_bag yX0_bag, Cond.code yX0_bag cX0_bag 11 (some .int), Cond.methodLink RX0 183 yX0_usefulThings, Cond.instanceMethod yX0_usefulThings, Cond.selects RX0 yX0_usefulThings yX0_usefulThings, Cond.code yX0_usefulThings cX0_usefulThings 3 (some .int), Cond.methodLink RL 136 yX1_bag, Cond.instanceMethod yX1_bag, Cond.selects RX1 yX1_bag yX1_bag, Cond.code yX1_bag cX1_bag 11 (some .int), Cond.methodLink RX1 114 yX1_size, Cond.static yX1_size]
def wsL_law0_r20 : List Cond := [Cond.code yX1_size cX1_size 3 (some .int)]
def wsL_law0 : List Cond := (wsL_law0_r1 ++ (wsL_law0_r2 ++ (wsL_law0_r3 ++ (wsL_law0_r4 ++ (wsL_law0_r5 ++ (wsL_law0_r6 ++ (wsL_law0_r7 ++ (wsL_law0_r8 ++ (wsL_law0_r9 ++ (wsL_law0_r10 ++ (wsL_law0_r11 ++ (wsL_law0_r12 ++ (wsL_law0_r13 ++ (wsL_law0_r14 ++ (wsL_law0_r15 ++ (wsL_law0_r16 ++ (wsL_law0_r17 ++ (wsL_law0_r18 ++ (wsL_law0_r19 ++ wsL_law0_r20))))))))))))))))))) ++ wsX00 ++ wsX10 ++ ([] : List Cond)
def wsL_law : List Cond := wsL_law0 ++ (vx_atS RX0 49 "java/lang/IllegalArgumentException" ["java/lang/RuntimeException", "java/lang/Exception"]).filter goodWord ++ (vx_atS RX0 60 "java/lang/IllegalStateException" ["java/lang/RuntimeException", "java/lang/Exception"]).filter goodWord ++ (vx_atS RX0 71 "java/lang/IndexOutOfBoundsException" ["java/lang/RuntimeException", "java/lang/Exception"]).filter goodWord
abbrev vwCl : List vw_C := [(RX0, TX0, 12), (RX1, TX1, 13)]
